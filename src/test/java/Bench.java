import java.nio.charset.StandardCharsets;

/** Files to try commands on: each check is done on a new object that has them. */
final class Bench {
    /** Stands in a text that was read for a 10 that is in a line, not behind it. */
    static final char INNER_TEN = '\u2424';

    private static int checks = 0;
    private static int wrong = 0;
    private static String sentence = "";

    private final String[] files = new String[10];

    /** The words of the document that the next checks are of; a wrong answer is told with them. */
    static void sentence(String words) {
        sentence = words;
    }

    Bench file(char letter, String text) {
        files[letter - 'a'] = text;
        return this;
    }

    /** The command gives these lines (each ended by a newline) as OUT. */
    void gives(String command, String lines) {
        Session x = make();
        int count = runText(x, command);
        same(command + " : fault", x.fault(), 0);
        same(command + " : lines given", count, x.lines(10));
        same(command + " : line", x.line(), 0);
        same(command + " : side", x.side(), 0);
        same(command, textOf(x, 10), lines);
    }

    /** The command is refused with this code at this place, and nothing but the tape changes. */
    void refuses(String command, int code, int place) {
        refuses(command, code, place, 0, 0);
    }

    void refuses(String command, int code, int place, int line, int side) {
        Session x = make();
        runText(x, "cat a");
        String before = linesOf(x);
        same(command + " : answer", runText(x, command), -1 - place);
        same(command + " : code", x.fault(), code);
        same(command + " : line", x.line(), line);
        same(command + " : side", x.side(), side);
        same(command + " : state", linesOf(x), before);
        same(command + " : tape", x.feed(0, 0, 0, 0, 0), 20);
    }

    Session make() {
        Session x = new Session();
        for (int f = 0; f < files.length; f++) {
            if (files[f] != null) {
                lay(x, files[f]);
                x.store(f);
            }
        }
        return x;
    }

    /** Puts a text of bytes on the tape behind what is there; only whole feeds before the last one. */
    static void lay(Session x, String text) {
        byte[] bytes = text.getBytes(StandardCharsets.ISO_8859_1);
        int size = 0;
        for (int i = 0; i < bytes.length; i += 20) {
            int[] fed = new int[5];
            for (int k = 0; k < 20 && i + k < bytes.length; k++) {
                fed[k / 4] |= (bytes[i + k] & 255) << (24 - 8 * (k % 4));
            }
            size = x.feed(fed[0], fed[1], fed[2], fed[3], fed[4]);
        }
        if (bytes.length > 0) {
            x.end(size - (20 - bytes.length % 20) % 20);
        }
    }

    static int runText(Session x, String command) {
        x.end(0);
        lay(x, command);
        return x.run();
    }

    static int storeText(Session x, int file, String text) {
        x.end(0);
        lay(x, text);
        return x.store(file);
    }

    static String textOf(Session x, int file) {
        StringBuilder text = new StringBuilder();
        for (int line = 0; line < x.lines(file); line++) {
            for (int i = 0; i < x.length(file, line); i++) {
                int b = x.byteAt(file, line, i);
                text.append(b == '\n' ? INNER_TEN : (char) b);
            }
            text.append('\n');
        }
        return x.lines(file) < 0 ? "not there" : text.toString();
    }

    /** All that can be read of an object; the tape cannot be. */
    static String allOf(Session x) {
        StringBuilder all = new StringBuilder();
        all.append(x.fault()).append(' ').append(x.line()).append(' ').append(x.side()).append('\n');
        return all.append(linesOf(x)).toString();
    }

    static String linesOf(Session x) {
        StringBuilder all = new StringBuilder();
        for (int file = 0; file <= 10; file++) {
            all.append(file).append(": ").append(textOf(x, file)).append('\n');
        }
        return all.toString();
    }

    static void same(String what, long got, long due) {
        same(what, Long.toString(got), Long.toString(due));
    }

    static void same(String what, String got, String due) {
        checks++;
        if (!got.equals(due)) {
            wrong++;
            if (!sentence.isEmpty()) {
                System.out.println("the document: " + sentence);
            }
            System.out.println(shown(what) + " : got <" + shown(got) + ">, due <" + shown(due) + ">");
        }
    }

    /** The call throws an exception of just this class. */
    static void throwsIt(String what, Class<? extends RuntimeException> due, Runnable call) {
        String got = "nothing";
        try {
            call.run();
        } catch (RuntimeException e) {
            got = e.getClass().getSimpleName();
        }
        same(what, got, due.getSimpleName());
    }

    static String times(String text, int n) {
        return text.repeat(n);
    }

    private static String shown(char c) {
        switch (c) {
            case '\n': return "\\n";
            case '\t': return "\\t";
            case INNER_TEN: return "\\10";
            default: return c < 32 || c > 126 ? "\\x" + Integer.toHexString(c) : String.valueOf(c);
        }
    }

    private static String shown(String text) {
        StringBuilder shown = new StringBuilder();
        for (int i = 0; i < text.length(); i++) {
            shown.append(shown(text.charAt(i)));
        }
        return shown.toString();
    }

    static void finish() {
        System.out.println(checks + " checks, " + wrong + " wrong");
        if (wrong != 0 || checks == 0) {
            System.exit(1);
        }
    }
}

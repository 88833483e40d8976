/** Each sentence on lines, files, the tape and the methods of the face that names an edge, by itself. */
public final class EdgesOfStateTest {
    private static final Class<IndexOutOfBoundsException> NO_INDEX = IndexOutOfBoundsException.class;
    private static final Class<UnsupportedOperationException> TOO_MUCH = UnsupportedOperationException.class;
    private static final Class<IllegalArgumentException> BAD_END = IllegalArgumentException.class;
    private static final int[] FAR = {Integer.MIN_VALUE, Integer.MIN_VALUE + 1, -256, 256, Integer.MAX_VALUE - 1,
        Integer.MAX_VALUE};

    public static void main(String[] args) {
        bytesOfALine();
        bytesComparedAsSuch();
        tenByWordsAlone();
        beginningFirst();
        longestLine();
        mostLines();
        tenFiles();
        longestTape();
        placesFromZero();
        outAtFirst();
        firstNamedIsThrown();
        throwingChangesNothing();
        newObject();
        feedTwentyBytes();
        feedBeyond();
        endKeepsTheFirst();
        endRefused();
        storeEmptiesTheTape();
        storeWhatIsBehindTheLast();
        storeNoSuchFile();
        storeTooMuch();
        drop();
        runEmptiesTheTape();
        runAnswersHowManyLines();
        runRefusedChangesNothing();
        faultOfTheLatestRun();
        lineAndSide();
        lines();
        length();
        byteAt();
        objectsAreApart();
        Bench.finish();
    }

    private static String allBytesButTen() {
        StringBuilder all = new StringBuilder();
        for (int b = 0; b < 256; b++) {
            all.append(b == 10 ? "" : String.valueOf((char) b)).append(b == 128 ? "\n" : "");
        }
        return all.append('\n').toString();
    }

    private static void bytesOfALine() {
        Bench.sentence("A LINE is a row of bytes (0 .. 255");
        Bench b = new Bench().file('a', allBytesButTen());
        b.gives("cat a", allBytesButTen());
        b.gives("rev a | rev", allBytesButTen());
        Session x = b.make();
        Bench.same("lines", x.lines(0), 2);
        Bench.same("a 0", x.byteAt(0, 0, 0), 0);
        Bench.same("a 9", x.byteAt(0, 0, 9), 9);
        Bench.same("an 11", x.byteAt(0, 0, 10), 11);
        Bench.same("a 127", x.byteAt(0, 0, 126), 127);
        Bench.same("a 128", x.byteAt(0, 0, 127), 128);
        Bench.same("a 255", x.byteAt(0, 1, 126), 255);
    }

    private static void bytesComparedAsSuch() {
        Bench.sentence("(0 .. 255, compared as such");
        Bench b = new Bench().file('a', "\u00ff\n\u0080\n\u007f\n\0\n \n").file('b', "\0\n\u007f\n\u0080\n\u00ff\n")
            .file('c', "\u007f\n").file('d', "\u0080\n").file('e', "k \u0080\nk \u007f\n");
        b.gives("sort a", "\0\n \n\u007f\n\u0080\n\u00ff\n");
        b.gives("sort -k 2 e", "k \u007f\nk \u0080\n");
        b.gives("comm b b", "\t\t\0\n\t\t\u007f\n\t\t\u0080\n\t\t\u00ff\n");
        b.gives("comm c d", "\u007f\n\t\u0080\n");
        b.gives("comm d c", "\t\u007f\n\u0080\n");
        b.gives("join -a 1 -a 2 d c", "\u007f\n\u0080\n");
        b.refuses("join -1 2 e c", 8, 0, 2, 1);
        b.refuses("comm a b", 8, 0, 2, 1);
    }

    private static void tenByWordsAlone() {
        Bench.sentence("a 10 only where a command's words brought it there");
        char ten = Bench.INNER_TEN;
        Bench b = new Bench().file('a', "x y\nz\n").file('b', "x\nz\n");
        b.gives("cat a | tr x '\n'", ten + " y\nz\n");
        b.gives("paste -d '\n' b b", "x" + ten + "x\nz" + ten + "z\n");
        b.gives("paste -s -d '\n' b", "x" + ten + "z\n");
        b.gives("join -t '\n' -o 0,0 b b", "x" + ten + "x\nz" + ten + "z\n");
        b.gives("join -e '\n' -o 1.9 b b", ten + "\n" + ten + "\n");
        b.gives("paste -s -d '\n' b | wc", "1 1 4\n");
        b.gives("paste -s -d '\n' b | cut -d '\n' -f 2", "z\n");
        b.gives("paste -s -d '\n' b | tr '\n' -", "x-z\n");
        b.gives("paste -s -d '\n' b | sort - b", "x\nx" + ten + "z\nz\n");
        b.gives("cat a | tr x \n", ten + " y\nz\n");
        Session x = b.make();
        Bench.same("into a file", Bench.runText(x, "paste -s -d '\n' b > c"), 1);
        Bench.same("one line of it", x.lines(2), 1);
        Bench.same("its length", x.length(2, 0), 3);
        Bench.same("its 10", x.byteAt(2, 0, 1), 10);
    }

    private static void beginningFirst() {
        Bench.sentence("a line that is the beginning of another one is before it");
        Bench b = new Bench().file('a', "ab\na\n\nab\0\n").file('b', "a\n").file('c', "a\0\n").file('d', "\n").file('e', "a b\na\n");
        b.gives("sort a", "\na\nab\nab\0\n");
        b.gives("sort -r a", "ab\0\nab\na\n\n");
        b.gives("comm b c", "a\n\ta\0\n");
        b.gives("comm c b", "\ta\na\0\n");
        b.gives("comm b d", "\t\na\n");
        b.gives("join -a 1 -a 2 c b", "a\na\0\n");
        b.gives("sort -k 2 e", "a\na b\n");
        b.refuses("comm e b", 8, 0, 2, 1);
        b.refuses("comm a b", 8, 0, 2, 1);
    }

    private static void longestLine() {
        Bench.sentence("240 at most");
        String longest = "m".repeat(239) + "n";
        Bench b = new Bench().file('a', "\n" + longest + "\n");
        b.gives("tac a", longest + "\n\n");
        Session x = b.make();
        Bench.same("length", x.length(0, 1), 240);
        Bench.same("the last byte", x.byteAt(0, 1, 239), 'n');
        Bench.throwsIt("behind it", NO_INDEX, () -> x.byteAt(0, 1, 240));
    }

    private static void mostLines() {
        Bench.sentence("LINES are up to 300 of them");
        Bench b = new Bench().file('a', "1\n".repeat(299) + "2\n").file('b', "3\n");
        b.gives("cat a | tail -n 2", "1\n2\n");
        b.gives("head -n 299 a | cat - b | tac | head -n 2", "3\n1\n");
        b.refuses("cat a b", 9, 0);
        Session x = b.make();
        Bench.same("the last", x.byteAt(0, 299, 0), '2');
        Bench.throwsIt("behind it", NO_INDEX, () -> x.length(0, 300));
    }

    private static void tenFiles() {
        Bench.sentence("FILES a .. j are LINES, or are not there (at first)");
        for (int file = 0; file < 10; file++) {
            Session x = new Session();
            String letter = String.valueOf((char) ('a' + file));
            Bench.same(letter + " at first", x.lines(file), -1);
            Bench.same(letter + " at first, in a command", Bench.runText(x, "cat " + letter), -5);
            Bench.same(letter + " at first, code", x.fault(), 7);
            Bench.same(letter + " stored", Bench.storeText(x, file, letter + "\n"), 1);
            Bench.same(letter + " told", Bench.runText(x, "cat " + letter), 1);
            Bench.same(letter + " given", Bench.textOf(x, 10), letter + "\n");
            for (int other = 0; other < 10; other++) {
                Bench.same(letter + " leaves " + other, x.lines(other), other == file ? 1 : -1);
            }
        }
        Session x = new Session();
        for (int file = 0; file < 10; file++) {
            Bench.storeText(x, file, file + "\n");
        }
        Bench.same("all ten", Bench.runText(x, "cat j i h g f e d c b a"), 10);
        Bench.same("all ten given", Bench.textOf(x, 10), "9\n8\n7\n6\n5\n4\n3\n2\n1\n0\n");
    }

    private static void longestTape() {
        Bench.sentence("THE TAPE has up to 9000 bytes");
        Session x = new Session();
        Bench.lay(x, ("y".repeat(239) + "\n").repeat(37) + "z".repeat(120));
        Bench.throwsIt("twenty more", TOO_MUCH, () -> x.feed(0, 0, 0, 0, 0));
        Bench.same("9000 bytes stored", x.store(0), 38);
        Bench.same("the last line", x.length(0, 37), 120);
        Bench.same("the last byte", x.byteAt(0, 37, 119), 'z');
        Bench.same("the first byte", x.byteAt(0, 0, 0), 'y');
        Session y = new Session();
        Bench.same("9000 bytes run", Bench.runText(y, " ".repeat(8996) + "cat "), -8997);
        Bench.same("9000 bytes run, code", y.fault(), 6);
    }

    private static void placesFromZero() {
        Bench.sentence("places counted from 0");
        Session x = new Session();
        Bench.same("the first place", Bench.runText(x, "'"), -1);
        Bench.same("the first place, code", x.fault(), 1);
        Session y = new Session();
        Bench.same("the last place", Bench.runText(y, " ".repeat(8999) + "'"), -9000);
        Bench.same("the last place, code", y.fault(), 1);
        Session z = new Session();
        Bench.same("the text's length", Bench.runText(z, " ".repeat(9000)), -9001);
        Bench.same("the text's length, code", z.fault(), 2);
    }

    private static void outAtFirst() {
        Bench.sentence("OUT are LINES (none at first)");
        Session x = new Session();
        Bench.same("lines", x.lines(10), 0);
        Bench.throwsIt("length", NO_INDEX, () -> x.length(10, 0));
        Bench.throwsIt("byteAt", NO_INDEX, () -> x.byteAt(10, 0, 0));
    }

    private static void firstNamedIsThrown() {
        Bench.sentence("Methods throw what their comments name, the one named first when several would do");
        String[] tooMuch = {"y".repeat(241), "\n".repeat(301), "\n".repeat(300) + "y".repeat(241)};
        for (String text : tooMuch) {
            Session x = new Session();
            Bench.lay(x, text);
            Bench.throwsIt("store(-1)", NO_INDEX, () -> x.store(-1));
            Bench.throwsIt("store(10)", NO_INDEX, () -> x.store(10));
            Bench.throwsIt("store(9)", TOO_MUCH, () -> x.store(9));
        }
    }

    private static void throwingChangesNothing() {
        Bench.sentence("A call that throws changes nothing");
        Session x = new Bench().file('a', "b\na\n").file('c', "").make();
        Bench.runText(x, "sort a");
        Bench.runText(x, "comm a a");
        Bench.lay(x, "left");
        String before = Bench.allOf(x);
        Bench.throwsIt("end(-1)", BAD_END, () -> x.end(-1));
        Bench.throwsIt("end(5)", BAD_END, () -> x.end(5));
        Bench.throwsIt("store(-1)", NO_INDEX, () -> x.store(-1));
        Bench.throwsIt("store(10)", NO_INDEX, () -> x.store(10));
        Bench.throwsIt("drop(-1)", NO_INDEX, () -> x.drop(-1));
        Bench.throwsIt("drop(10)", NO_INDEX, () -> x.drop(10));
        Bench.throwsIt("lines(-1)", NO_INDEX, () -> x.lines(-1));
        Bench.throwsIt("lines(11)", NO_INDEX, () -> x.lines(11));
        Bench.throwsIt("length(1, 0)", NO_INDEX, () -> x.length(1, 0));
        Bench.throwsIt("length(2, 0)", NO_INDEX, () -> x.length(2, 0));
        Bench.throwsIt("byteAt(0, 0, 1)", NO_INDEX, () -> x.byteAt(0, 0, 1));
        Bench.same("all but the tape", Bench.allOf(x), before);
        Bench.same("the tape's lines", x.store(9), 1);
        Bench.same("the tape", Bench.textOf(x, 9), "left\n");
        storeThrowingChangesNothing("y".repeat(240) + "\n" + "z".repeat(241), 240);
        storeThrowingChangesNothing("a\n" + "z".repeat(241) + "\nb\n", 2);
        storeThrowingChangesNothing("a\n".repeat(301), 600);
        storeThrowingChangesNothing("\n".repeat(300) + "a", 300);
        feedThrowingChangesNothing();
    }

    private static void storeThrowingChangesNothing(String text, int kept) {
        Session x = new Bench().file('a', "b\na\n").file('b', "b\n").make();
        Bench.runText(x, "cat a b");
        Bench.runText(x, "comm a a");
        Bench.lay(x, text);
        String before = Bench.allOf(x);
        Bench.throwsIt("store(0)", TOO_MUCH, () -> x.store(0));
        Bench.throwsIt("store(7)", TOO_MUCH, () -> x.store(7));
        Bench.same("all but the tape", Bench.allOf(x), before);
        Bench.throwsIt("the tape is not longer", BAD_END, () -> x.end(text.length() + 1));
        x.end(text.length());
        x.end(kept);
        x.store(3);
        String due = text.substring(0, kept);
        Bench.same("the tape stayed", Bench.textOf(x, 3), due.endsWith("\n") ? due : due + "\n");
    }

    private static void feedThrowingChangesNothing() {
        Session x = new Session();
        Bench.lay(x, ("y".repeat(239) + "\n").repeat(37) + "z".repeat(119));
        String before = Bench.allOf(x);
        Bench.throwsIt("feed", TOO_MUCH, () -> x.feed(-1, -1, -1, -1, -1));
        Bench.same("all but the tape", Bench.allOf(x), before);
        Bench.throwsIt("the tape is not longer", BAD_END, () -> x.end(9000));
        x.end(8999);
        Bench.same("the tape's lines", x.store(0), 38);
        Bench.same("the tape's last byte", x.byteAt(0, 37, 118), 'z');
        Bench.throwsIt("behind it", NO_INDEX, () -> x.byteAt(0, 37, 119));
    }

    private static void newObject() {
        Bench.sentence("`TextTools()`: No files, an empty tape, no lines.");
        Session x = new Session();
        Bench.same("all", Bench.linesOf(x), Bench.linesOf(new Bench().make()));
        for (int file = 0; file < 10; file++) {
            Bench.same("file " + file, x.lines(file), -1);
        }
        Bench.same("OUT", x.lines(10), 0);
        Bench.throwsIt("the tape", BAD_END, () -> x.end(1));
        Bench.same("an empty tape run", x.run(), -1);
        Bench.same("an empty tape run, code", x.fault(), 2);
        Bench.same("an empty tape stored", x.store(0), 0);
    }

    private static void feedTwentyBytes() {
        Bench.sentence("Twenty bytes more of the tape, the highest of each number first: how many it has.");
        Session x = new Session();
        Bench.same("first", x.feed(0x00010203, 0x04050607, 0x08090b0c, 0x0d0e0f10, 0x11121314), 20);
        Bench.same("second", x.feed(0x7fffffff, 0x80000000, 0xfffefdfc, -1, 0), 40);
        x.end(33);
        Bench.same("behind what end left", x.feed(0x61626364, 0x65666768, 0x696a6b6c, 0x6d6e6f70, 0x71727374), 53);
        Bench.same("one line", x.store(0), 1);
        Bench.same("the bytes", Bench.textOf(x, 0), "\0\1\2\3\4\5\6\7\u0008\u0009\u000b\u000c\r\u000e\u000f\u0010\u0011\u0012\u0013\u0014"
            + "\u007f\u00ff\u00ff\u00ff\u0080\0\0\0\u00ff\u00fe\u00fd\u00fc\u00ff" + "abcdefghijklmnopqrst\n");
        Bench.same("behind a store", x.feed(0, 0, 0, 0, 0), 20);
    }

    private static void feedBeyond() {
        Bench.sentence("UnsupportedOperationException: they would be more than 9000.");
        int[] sizes = {8981, 8982, 8999, 9000};
        for (int size : sizes) {
            Session x = new Session();
            Bench.lay(x, " ".repeat(size));
            Bench.throwsIt("feed at " + size, TOO_MUCH, () -> x.feed(1, 2, 3, 4, 5));
            Bench.throwsIt("feed again at " + size, TOO_MUCH, () -> x.feed(1, 2, 3, 4, 5));
            x.end(8980);
            Bench.same("feed at 8980", x.feed(0x61616161, 0x61616161, 0x61616161, 0x61616161, 0x61616162), 9000);
            Bench.same("the last word", x.run(), -8981);
            Bench.same("the tape is empty", x.feed(1, 2, 3, 4, 5), 20);
        }
        Session x = new Session();
        Bench.lay(x, " ".repeat(8979));
        Bench.same("feed at 8979", x.feed(1, 2, 3, 4, 5), 8999);
    }

    private static void endKeepsTheFirst() {
        Bench.sentence("The tape keeps its first n bytes.");
        int[] kept = {0, 1, 19, 20, 21, 25, 26};
        for (int n : kept) {
            Session x = new Session();
            Bench.lay(x, "abcdefghijklmnopqrstuvwxyz");
            x.end(n);
            Bench.throwsIt("end(" + n + " + 1)", BAD_END, () -> x.end(n + 1));
            x.end(n);
            Bench.same("stored", x.store(0), n == 0 ? 0 : 1);
            Bench.same("the first " + n, Bench.textOf(x, 0), n == 0 ? "" : "abcdefghijklmnopqrstuvwxyz".substring(0, n) + "\n");
        }
    }

    private static void endRefused() {
        Bench.sentence("IllegalArgumentException: n is below 0, or it has not so many.");
        Session empty = new Session();
        empty.end(0);
        Bench.throwsIt("end(1) of none", BAD_END, () -> empty.end(1));
        Bench.throwsIt("end(-1) of none", BAD_END, () -> empty.end(-1));
        Session x = new Session();
        x.feed(1, 2, 3, 4, 5);
        x.end(20);
        Bench.throwsIt("end(21) of 20", BAD_END, () -> x.end(21));
        Bench.throwsIt("end(-1) of 20", BAD_END, () -> x.end(-1));
        for (int n : FAR) {
            Bench.throwsIt("end(" + n + ")", BAD_END, () -> x.end(n));
        }
        x.end(20);
        x.store(0);
        Bench.throwsIt("end(1) behind a store", BAD_END, () -> x.end(1));
        x.feed(1, 2, 3, 4, 5);
        x.run();
        Bench.throwsIt("end(1) behind a run", BAD_END, () -> x.end(1));
    }

    private static void storeEmptiesTheTape() {
        Bench.sentence("The tape (which is empty then) is the LINES of a file (0 .. 9 for a .. j)");
        Session x = new Session();
        Bench.lay(x, "first\n");
        Bench.same("first", x.store(0), 1);
        Bench.same("at once again: an empty file", x.store(9), 0);
        Bench.same("it is there", x.lines(9), 0);
        Bench.same("the first stays", Bench.textOf(x, 0), "first\n");
        Bench.same("over again: it is empty then", x.store(0), 0);
        Bench.same("over again", Bench.textOf(x, 0), "");
        Bench.same("a longer one", Bench.storeText(x, 0, "1\n2\n3\n"), 3);
        Bench.same("a shorter one", Bench.storeText(x, 0, "4\n"), 1);
        Bench.same("of the longer nothing is left", Bench.textOf(x, 0), "4\n");
        Bench.same("OUT stays", x.lines(10), 0);
    }

    private static void storeWhatIsBehindTheLast() {
        Bench.sentence("a 10 ends each line; what is behind the last one, if it is not empty, is a line, too: how many lines");
        String[] texts = {"", "\n", "\n\n", "a", "a\n", "a\n\n", "\na", "\na\n", "a\nb", "a\nb\n", "\n\na\n\n\nb\n\n", "\r\n", "\0"};
        int[] counts = {0, 1, 2, 1, 1, 2, 2, 2, 2, 2, 7, 1, 1};
        for (int i = 0; i < texts.length; i++) {
            Session x = new Session();
            Bench.same("lines of <" + texts[i] + ">", Bench.storeText(x, 4, texts[i]), counts[i]);
            Bench.same("lines", x.lines(4), counts[i]);
            String due = texts[i].isEmpty() || texts[i].endsWith("\n") ? texts[i] : texts[i] + "\n";
            Bench.same("text", Bench.textOf(x, 4), due);
        }
    }

    private static void storeNoSuchFile() {
        Bench.sentence("IndexOutOfBoundsException: no such file");
        Session x = new Session();
        Bench.lay(x, "text");
        Bench.throwsIt("store(-1)", NO_INDEX, () -> x.store(-1));
        Bench.throwsIt("store(10)", NO_INDEX, () -> x.store(10));
        Bench.throwsIt("store(11)", NO_INDEX, () -> x.store(11));
        for (int file : FAR) {
            Bench.throwsIt("store(" + file + ")", NO_INDEX, () -> x.store(file));
        }
        Bench.same("OUT has none", x.lines(10), 0);
        Bench.same("store(9)", x.store(9), 1);
        Bench.lay(x, "text");
        Bench.same("store(0)", x.store(0), 1);
    }

    private static void storeTooMuch() {
        Bench.sentence("UnsupportedOperationException: a line would have more than 240 bytes, or they would be more than 300 "
            + "(the tape stays)");
        String y = "y".repeat(240);
        String[] good = {y, y + "\n", "\n" + y, y + "\n" + y, "\n".repeat(300), "\n".repeat(299) + y, "a\n".repeat(300)};
        int[] counts = {1, 1, 2, 2, 300, 300, 300};
        for (int i = 0; i < good.length; i++) {
            Session x = new Session();
            Bench.same("good " + i, Bench.storeText(x, 0, good[i]), counts[i]);
            Bench.same("its last line " + i, x.length(0, counts[i] - 1), good[i].endsWith("a\n") ? 1 : i == 4 ? 0 : 240);
        }
        String[] bad = {y + "y", y + "y\n", "\n" + y + "y", y + "y\n\n", y + "\n" + y + "y\n", "\n".repeat(301), "\n".repeat(300) + "a",
            "\n".repeat(300) + "a\n", "a\n".repeat(301), "\n".repeat(299) + y + "y", "\n".repeat(9000), "y".repeat(9000)};
        for (int i = 0; i < bad.length; i++) {
            Session x = new Session();
            int n = i;
            Bench.throwsIt("bad " + i, TOO_MUCH, () -> Bench.storeText(x, 0, bad[n]));
            Bench.same("no file " + i, x.lines(0), -1);
            x.end(bad[i].length());
            Bench.throwsIt("bad again " + i, TOO_MUCH, () -> x.store(0));
        }
    }

    private static void drop() {
        Bench.sentence("A file is not there any more: whether it was. IndexOutOfBoundsException.");
        for (int file = 0; file < 10; file++) {
            Session x = new Session();
            int dropped = file;
            Bench.same("not there " + file, x.drop(file) ? 1 : 0, 0);
            x.store(file);
            Bench.same("there without lines " + file, x.drop(file) ? 1 : 0, 1);
            Bench.same("not there any more " + file, x.drop(file) ? 1 : 0, 0);
            Bench.storeText(x, file, "a");
            Bench.same("there " + file, x.drop(file) ? 1 : 0, 1);
            Bench.same("lines " + file, x.lines(file), -1);
            Bench.throwsIt("length " + file, NO_INDEX, () -> x.length(dropped, 0));
            Bench.throwsIt("byteAt " + file, NO_INDEX, () -> x.byteAt(dropped, 0, 0));
        }
        Session x = new Bench().file('a', "1\n").file('b', "2\n").make();
        Bench.runText(x, "cat a b");
        Bench.same("drop a", x.drop(0) ? 1 : 0, 1);
        Bench.same("b stays", Bench.textOf(x, 1), "2\n");
        Bench.same("OUT stays", Bench.textOf(x, 10), "1\n2\n");
        Bench.throwsIt("drop(-1)", NO_INDEX, () -> x.drop(-1));
        Bench.throwsIt("drop(10)", NO_INDEX, () -> x.drop(10));
        Bench.throwsIt("drop(11)", NO_INDEX, () -> x.drop(11));
        for (int file : FAR) {
            Bench.throwsIt("drop(" + file + ")", NO_INDEX, () -> x.drop(file));
        }
        Bench.same("b stays still", Bench.textOf(x, 1), "2\n");
        Bench.same("OUT stays still", Bench.textOf(x, 10), "1\n2\n");
        Bench.lay(x, "kept");
        x.drop(1);
        Bench.same("the tape stays", x.store(1), 1);
        Bench.same("the tape stays: bytes", Bench.textOf(x, 1), "kept\n");
    }

    private static void runEmptiesTheTape() {
        Bench.sentence("The tape (which is empty then) is a command");
        String[] commands = {"cat a", "cat a > b", "", "'", "frob", "cat k", "cat e", "cat -x", "head -n 0"};
        for (String command : commands) {
            Session x = new Bench().file('a', "1\n").make();
            Bench.runText(x, command);
            Bench.throwsIt("behind <" + command + ">", BAD_END, () -> x.end(1));
            Bench.same("once more", x.run(), -1);
            Bench.same("once more, code", x.fault(), 2);
            Bench.same("fed", x.feed(0, 0, 0, 0, 0), 20);
        }
    }

    private static void runAnswersHowManyLines() {
        Bench.sentence("how many lines the last tool gives; -1 less the place of a fault");
        Bench b = new Bench().file('a', "1\n".repeat(300)).file('b', "").file('c', "x\ny\n");
        Session x = b.make();
        Bench.same("300", Bench.runText(x, "cat a"), 300);
        Bench.same("OUT has them", x.lines(10), 300);
        Bench.same("none", Bench.runText(x, "cat b"), 0);
        Bench.same("OUT has none", x.lines(10), 0);
        Bench.same("the last tool's", Bench.runText(x, "cat a | head -n 299 | wc"), 1);
        Bench.same("into a file", Bench.runText(x, "cat a | tac > j"), 300);
        Bench.same("the file has them", x.lines(9), 300);
        Bench.same("OUT has none then", x.lines(10), 0);
        Bench.same("none into a file", Bench.runText(x, "cat b > j"), 0);
        Bench.same("the file has none", x.lines(9), 0);
        Bench.same("fault at 0", Bench.runText(x, "frob"), -1);
        Bench.same("fault at 1", Bench.runText(x, " frob"), -2);
        Bench.same("fault at 8", Bench.runText(x, "cat c | frob"), -9);
    }

    private static void runRefusedChangesNothing() {
        Bench.sentence("-1 less the place of a fault: then OUT and files stay as they are.");
        Bench b = new Bench().file('a', "x\n").file('b', "b\na\n").file('c', "1\n".repeat(300)).file('d', "");
        b.refuses("cat 'a > b", 1, 4);
        b.refuses("cat a > b c", 2, 10);
        b.refuses("cat a | > b", 2, 8);
        b.refuses("cat a | frob > b", 3, 8);
        b.refuses("cat a | tac -x > b", 4, 12);
        b.refuses("cat a | head -n > b", 5, 16);
        b.refuses("cat a | head -n 0 > b", 5, 16);
        b.refuses("cat a | head k > b", 6, 13);
        b.refuses("cat a | cut > b", 6, 8);
        b.refuses("cat a | cat - e > b", 7, 14);
        b.refuses("cat a | cat e > f", 7, 12);
        b.refuses("cat a | comm - b > b", 8, 8, 2, 2);
        b.refuses("cat a | cat - c > d", 9, 8);
        b.refuses("cat a | cat - c | head -n 1 > d", 9, 8);
    }

    private static void faultOfTheLatestRun() {
        Bench.sentence("The code of the fault of the latest run(); 0 if it had none, or before one.");
        Session x = new Bench().file('a', "x\n").file('b', "b\na\n").file('c', "1\n".repeat(300)).make();
        Bench.same("before one", x.fault(), 0);
        String[] commands = {"'", "|", "frob", "cat -x", "head -n 0", "cat k", "cat j", "comm b b", "cat c c"};
        for (int code = 1; code <= 9; code++) {
            Bench.runText(x, commands[code - 1]);
            Bench.same(commands[code - 1], x.fault(), code);
            Bench.same(commands[code - 1] + " : asked again", x.fault(), code);
            x.feed(0, 0, 0, 0, 0);
            Bench.same("behind feed", x.fault(), code);
            x.end(1);
            Bench.same("behind end", x.fault(), code);
            x.store(3);
            Bench.same("behind store", x.fault(), code);
            x.drop(3);
            Bench.same("behind drop", x.fault(), code);
        }
        Bench.runText(x, "cat a");
        Bench.same("none", x.fault(), 0);
        Bench.runText(x, "frob");
        Bench.runText(x, "cat a > b");
        Bench.same("none into a file", x.fault(), 0);
    }

    private static void lineAndSide() {
        Bench.sentence("Which line (from 1 on) was NOT SORTED in the latest run(); 0 if that was not its fault.");
        Session x = new Bench().file('a', "b\na\n").file('b', "a\nb\na\n").file('c', "a\n".repeat(299) + "\n")
            .file('d', "x\n").make();
        told(x, "before a run", 0, 0);
        Bench.runText(x, "comm a d");
        told(x, "line 2 of A", 2, 1);
        Bench.runText(x, "comm d a");
        told(x, "line 2 of B", 2, 2);
        Bench.runText(x, "join b d");
        told(x, "line 3 of A", 3, 1);
        Bench.runText(x, "join d b");
        told(x, "line 3 of B", 3, 2);
        Bench.runText(x, "comm c a");
        told(x, "line 300 of A", 300, 1);
        Bench.runText(x, "comm d c");
        told(x, "line 300 of B", 300, 2);
        String[] others = {"'", "|", "frob", "cat -x", "head -n 0", "cat k", "cat j", "cat c d", "cat a", "cat a > e"};
        for (String other : others) {
            Bench.runText(x, "comm d b");
            told(x, "again", 3, 2);
            Bench.runText(x, other);
            told(x, "behind <" + other + ">", 0, 0);
        }
        Bench.runText(x, "comm d b");
        x.end(0);
        x.store(5);
        x.drop(5);
        told(x, "behind other calls", 3, 2);
    }

    private static void told(Session x, String what, int line, int side) {
        Bench.same(what + " : line", x.line(), line);
        Bench.same(what + " : side", x.side(), side);
    }

    private static void lines() {
        Bench.sentence("How many lines a file has, or OUT (10); NONE if it is not there. IndexOutOfBoundsException.");
        Session x = new Bench().file('a', "1\n2\n").file('j', "").file('i', "\n".repeat(300)).make();
        Bench.same("lines(0)", x.lines(0), 2);
        Bench.same("lines(9)", x.lines(9), 0);
        Bench.same("lines(8)", x.lines(8), 300);
        Bench.same("lines(1)", x.lines(1), TextTools.NONE);
        Bench.same("lines(10)", x.lines(10), 0);
        Bench.runText(x, "cat a a");
        Bench.same("lines(10) then", x.lines(10), 4);
        Bench.throwsIt("lines(-1)", NO_INDEX, () -> x.lines(-1));
        Bench.throwsIt("lines(11)", NO_INDEX, () -> x.lines(11));
        for (int file : FAR) {
            Bench.throwsIt("lines(" + file + ")", NO_INDEX, () -> x.lines(file));
        }
    }

    private static void length() {
        Bench.sentence("How many bytes a line (from 0 on) of a file, or of OUT (10), has. IndexOutOfBoundsException: also no such line.");
        Session x = new Bench().file('a', "abc\n\n" + "y".repeat(240)).file('j', "z\n").file('i', "").make();
        Bench.same("line 0", x.length(0, 0), 3);
        Bench.same("line 1, empty", x.length(0, 1), 0);
        Bench.same("line 2, the last", x.length(0, 2), 240);
        Bench.same("file 9", x.length(9, 0), 1);
        Bench.throwsIt("line 3", NO_INDEX, () -> x.length(0, 3));
        Bench.throwsIt("line -1", NO_INDEX, () -> x.length(0, -1));
        Bench.throwsIt("a file without lines", NO_INDEX, () -> x.length(8, 0));
        Bench.throwsIt("a file that is not there", NO_INDEX, () -> x.length(1, 0));
        Bench.throwsIt("OUT without lines", NO_INDEX, () -> x.length(10, 0));
        Bench.throwsIt("file -1", NO_INDEX, () -> x.length(-1, 0));
        Bench.throwsIt("file 11", NO_INDEX, () -> x.length(11, 0));
        for (int far : FAR) {
            Bench.throwsIt("line " + far, NO_INDEX, () -> x.length(0, far));
            Bench.throwsIt("file " + far, NO_INDEX, () -> x.length(far, 0));
        }
        Bench.runText(x, "tac a");
        Bench.same("OUT's line 0", x.length(10, 0), 240);
        Bench.same("OUT's line 2", x.length(10, 2), 3);
        Bench.throwsIt("OUT's line 3", NO_INDEX, () -> x.length(10, 3));
        Bench.runText(x, "head -n 1 a");
        Bench.throwsIt("OUT's line 1, from before", NO_INDEX, () -> x.length(10, 1));
    }

    private static void byteAt() {
        Bench.sentence("Byte i of a line of a file, or of OUT (10), 0 .. 255. IndexOutOfBoundsException.");
        Session x = new Bench().file('a', "ab\n\n\u00ff\0\u0080").file('j', "z\n").file('i', "").make();
        Bench.same("byte 0", x.byteAt(0, 0, 0), 'a');
        Bench.same("byte 1, the last", x.byteAt(0, 0, 1), 'b');
        Bench.same("a 255", x.byteAt(0, 2, 0), 255);
        Bench.same("a 0", x.byteAt(0, 2, 1), 0);
        Bench.same("a 128", x.byteAt(0, 2, 2), 128);
        Bench.same("file 9", x.byteAt(9, 0, 0), 'z');
        Bench.throwsIt("byte 2", NO_INDEX, () -> x.byteAt(0, 0, 2));
        Bench.throwsIt("byte -1", NO_INDEX, () -> x.byteAt(0, 0, -1));
        Bench.throwsIt("byte -1 of a later line", NO_INDEX, () -> x.byteAt(0, 2, -1));
        Bench.throwsIt("an empty line", NO_INDEX, () -> x.byteAt(0, 1, 0));
        Bench.throwsIt("line 3", NO_INDEX, () -> x.byteAt(0, 3, 0));
        Bench.throwsIt("line -1", NO_INDEX, () -> x.byteAt(0, -1, 0));
        Bench.throwsIt("a file without lines", NO_INDEX, () -> x.byteAt(8, 0, 0));
        Bench.throwsIt("a file that is not there", NO_INDEX, () -> x.byteAt(1, 0, 0));
        Bench.throwsIt("OUT without lines", NO_INDEX, () -> x.byteAt(10, 0, 0));
        Bench.throwsIt("file -1", NO_INDEX, () -> x.byteAt(-1, 0, 0));
        Bench.throwsIt("file 11", NO_INDEX, () -> x.byteAt(11, 0, 0));
        for (int far : FAR) {
            Bench.throwsIt("byte " + far, NO_INDEX, () -> x.byteAt(0, 0, far));
            Bench.throwsIt("line " + far, NO_INDEX, () -> x.byteAt(0, far, 0));
            Bench.throwsIt("file " + far, NO_INDEX, () -> x.byteAt(far, 0, 0));
        }
        Bench.runText(x, "tac a");
        Bench.same("OUT's", x.byteAt(10, 2, 1), 'b');
        Bench.throwsIt("OUT's byte 2", NO_INDEX, () -> x.byteAt(10, 2, 2));
    }

    private static void objectsAreApart() {
        Bench.sentence("`TextTools()`: No files, an empty tape, no lines.");
        Session x = new Bench().file('a', "1\n").make();
        Bench.runText(x, "cat a");
        Bench.lay(x, "left");
        Session y = new Session();
        Bench.same("no file", y.lines(0), -1);
        Bench.same("no OUT", y.lines(10), 0);
        Bench.throwsIt("no tape", BAD_END, () -> y.end(1));
        Bench.storeText(y, 0, "2\n3\n");
        Bench.runText(y, "frob");
        Bench.same("the other file", Bench.textOf(x, 0), "1\n");
        Bench.same("the other fault", x.fault(), 0);
        Bench.same("the other tape", x.store(1), 1);
    }
}

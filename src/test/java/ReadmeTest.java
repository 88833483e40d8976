import java.io.IOException;
import java.nio.charset.StandardCharsets;
import java.nio.file.Files;
import java.nio.file.Path;
import java.util.List;
import java.util.Map;
import java.util.TreeMap;
import java.util.regex.Matcher;
import java.util.regex.Pattern;

/** README.md tells no more and no less than the class does: its examples are run, its options are tried. */
public final class ReadmeTest {
    private static final Pattern SYNOPSIS = Pattern.compile("`([a-z]+)( [^`]*)`");
    private static final Pattern OPTION = Pattern.compile("-([a-z0-9])[ \\]]");

    public static void main(String[] args) throws IOException {
        List<String> readme = Files.readAllLines(Path.of("README.md"), StandardCharsets.UTF_8);
        theCallsShown();
        examples(readme);
        options(readme);
        Bench.finish();
    }

    private static void theCallsShown() {
        TextTools t = new TextTools();
        Bench.same("feed", t.feed(0x620a610a, 0, 0, 0, 0), 20);
        t.end(4);
        Bench.same("store", t.store(0), 2);
        t.feed(0x736f7274, 0x20612020, 0, 0, 0);
        t.end(8);
        Bench.same("run", t.run(), 2);
        Bench.same("byteAt", t.byteAt(10, 0, 0), 'a');
    }

    /** What is shown behind "$ cat x", the first time, is what the file x has. */
    private static void examples(List<String> readme) {
        Session x = new Session();
        int run = 0;
        for (int i = 0; i < readme.size(); i++) {
            if (!readme.get(i).startsWith("$ ")) {
                continue;
            }
            String command = readme.get(i).substring(2);
            StringBuilder shown = new StringBuilder();
            for (int k = i + 1; !readme.get(k).startsWith("$ ") && !readme.get(k).startsWith("```"); k++) {
                shown.append(readme.get(k)).append('\n');
            }
            if (command.matches("cat [a-j]") && x.lines(command.charAt(4) - 'a') < 0) {
                Bench.storeText(x, command.charAt(4) - 'a', shown.toString());
            }
            Bench.same(command, answerOf(x, command), shown.toString());
            run++;
        }
        Bench.same("examples", run, 10);
    }

    private static String answerOf(Session x, String command) {
        int count = Bench.runText(x, command);
        if (count >= 0) {
            return Bench.textOf(x, 10);
        }
        String unsorted = x.fault() == 8 ? ", line " + x.line() + " of operand " + x.side() : "";
        return "fault " + x.fault() + " at " + (-1 - count) + unsorted + "\n";
    }

    private static void options(List<String> readme) {
        Map<String, String> told = new TreeMap<>();
        for (String row : readme) {
            if (row.startsWith("| `")) {
                Matcher synopsis = SYNOPSIS.matcher(row.split(" \\|")[0]);
                while (synopsis.find()) {
                    // cut is told in two pieces.
                    told.merge(synopsis.group(1), lettersOf(synopsis.group(2)), String::concat);
                }
            }
        }
        Bench.same("tools told", told.keySet().toString(), "[cat, comm, cut, head, join, paste, rev, sort, tac, tail, tr, uniq, wc]");
        told.forEach(ReadmeTest::tryAll);
    }

    private static String lettersOf(String synopsis) {
        StringBuilder letters = new StringBuilder();
        Matcher option = OPTION.matcher(synopsis);
        while (option.find()) {
            letters.append(option.group(1));
        }
        return letters.toString();
    }

    private static void tryAll(String name, String letters) {
        for (char c = 33; c < 127; c++) {
            if (c != '|' && c != '>' && c != '\'') {
                Session x = new Session();
                Bench.runText(x, name + " -" + c);
                Bench.same(name + " -" + c + " is an option", x.fault() != 4 ? 1 : 0, letters.indexOf(c) >= 0 ? 1 : 0);
            }
        }
    }
}

/** Each sentence of "2 COMMANDS" that names an edge, by itself. */
public final class EdgesOfCommandsTest {
    private static final String[] ONE_FILE = {"tac", "rev", "head", "tail", "wc", "cut -b 1", "cut -f 1", "uniq"};
    private static final Bench BENCH = new Bench().file('a', "x\n").file('b', "1\n2\n").file('c', "b\na\n").file('d', "");

    public static void main(String[] args) {
        blanksBetweenWords();
        barAndArrowEndWords();
        quotedBytes();
        emptyQuotes();
        plainBytes();
        placeOfAWord();
        chain();
        behindTheArrow();
        arrowToAFile();
        optionWords();
        firstOtherWord();
        restOfTheWord();
        nextWord();
        toldAgain();
        toldAgainInJoin();
        operandLetters();
        noneToldIsDash();
        dashInTheFirstTool();
        secondDash();
        fileToldTwice();
        numbers();
        lists();
        oneByte();
        loneQuote();
        firstFaultCounts();
        noName();
        notAsSaidBehindTheArrow();
        noSuchTool();
        noSuchOption();
        badValue();
        noValue();
        badOperand();
        operandsTooMany();
        operandsTooFew();
        dashTakenByTheFirst();
        optionsThatDoNotGo();
        fileNotThere();
        toolsFromTheLeft();
        notSorted();
        notSortedInAFirst();
        tooLong();
        tooMany();
        notSortedBeforeTooMany();
        Bench.finish();
    }

    private static void blanksBetweenWords() {
        Bench.sentence("WORDS, with blanks (byte 32) between them");
        BENCH.gives(" ".repeat(1000) + "cat" + " ".repeat(1000) + "a" + " ".repeat(1000), "x\n");
        BENCH.gives("cat a b", "x\n1\n2\n");
        BENCH.refuses("cat\ta", 3, 0);
        BENCH.refuses("cat\na", 3, 0);
        BENCH.refuses("cat a\tb", 6, 4);
        BENCH.refuses("cat a\0", 6, 4);
        BENCH.refuses("\ncat a", 3, 0);
        BENCH.refuses("cat a\n", 6, 4);
        BENCH.refuses("cat ab", 6, 4);
        BENCH.refuses("cat\u00a0a", 3, 0);
    }

    private static void barAndArrowEndWords() {
        Bench.sentence("| and > alone (they end a word, too)");
        BENCH.gives("cat b|tac", "2\n1\n");
        BENCH.gives("cat b |tac", "2\n1\n");
        BENCH.gives("cat b| tac|tac", "1\n2\n");
        BENCH.refuses("cat b||tac", 2, 6);
        BENCH.refuses("cat b>>a", 2, 6);
        BENCH.refuses("cat b>|a", 2, 6);
        BENCH.refuses("head -n|a", 5, 7);
        BENCH.refuses("head -n>a", 5, 7);
        BENCH.refuses("cat|a", 6, 0);
        BENCH.refuses("ca|t", 3, 0);
        Session x = BENCH.make();
        Bench.same("cat b>e", Bench.runText(x, "cat b>e"), 2);
        Bench.same("e", Bench.textOf(x, 4), "1\n2\n");
    }

    private static void quotedBytes() {
        Bench.sentence("rows of other bytes, in which ' to the next ' stands for the bytes between them (any");
        BENCH.gives("cat a | tr x ' '", " \n");
        BENCH.gives("cat a | tr x '|'", "|\n");
        BENCH.gives("cat a | tr x '>'", ">\n");
        BENCH.gives("cat a | tr x '\t'", "\t\n");
        BENCH.gives("cat a | tr x '\0'", "\0\n");
        BENCH.gives("cat a | tr x '\u00ff'", "\u00ff\n");
        BENCH.gives("cat a | tr x '\\'", "\\\n");
        BENCH.gives("cat a | tr x '\"'", "\"\n");
        BENCH.gives("paste -d ' |> ' a a a a a", "x x|x>x x\n");
        BENCH.gives("paste -d ' '\\\\'|'x'>' a a a a a a", "x x\\x|xxx>x\n");
        BENCH.gives("'ca't a", "x\n");
        BENCH.refuses("cat' 'a", 3, 0);
        BENCH.refuses("cat 'a b'", 6, 4);
    }

    private static void emptyQuotes() {
        Bench.sentence("' to the next ' stands for the bytes between them (any; none, too)");
        BENCH.gives("''cat ''a''", "x\n");
        BENCH.gives("c''''at a", "x\n");
        BENCH.gives("join -e '' -o 0,1.2 b b", "1 \n2 \n");
        BENCH.gives("head -n '''1' b", "1\n");
        BENCH.refuses("''", 3, 0);
        BENCH.refuses("cat ''", 6, 4);
        BENCH.refuses("cat a ''", 6, 6);
        BENCH.refuses("cat a > ''", 2, 8);
        BENCH.refuses("cat a ''> b c", 6, 6);
        BENCH.refuses("head -n '' b", 5, 8);
    }

    private static void plainBytes() {
        Bench.sentence("A byte is PLAIN if it did not stand so.");
        BENCH.gives("head -'n1' b", "1\n");
        BENCH.gives("head -''n1 b", "1\n");
        BENCH.gives("head ''-n1 b", "1\n");
        BENCH.gives("head ''''-'n'1 b", "1\n");
        BENCH.refuses("head '-n1' b", 6, 5);
        BENCH.refuses("head '-'n1 b", 6, 5);
        BENCH.refuses("head '''-'n1 b", 6, 5);
        BENCH.gives("cat b | tr '-1' xy", "y\n2\n");
        BENCH.gives("cat b | tr '-''1' xy", "y\n2\n");
        BENCH.refuses("cat b | tr -1 xy", 4, 11);
    }

    private static void placeOfAWord() {
        Bench.sentence("The place of a word is that of its first byte.");
        BENCH.refuses("   frob", 3, 3);
        BENCH.refuses("'frob'", 3, 0);
        BENCH.refuses("  ''frob", 3, 2);
        BENCH.refuses("cat a |frob", 3, 7);
        BENCH.refuses("cat a b''k", 6, 6);
        BENCH.refuses("cat a 'k'", 6, 6);
        BENCH.refuses("head -n'0' b", 5, 5);
        BENCH.refuses("head -n   '0' b", 5, 10);
        BENCH.refuses("cat a >  'k'", 2, 9);
        BENCH.refuses("tac -'x' a", 4, 4);
        BENCH.refuses("cat ''e", 7, 4);
    }

    private static void chain() {
        Bench.sentence("command:  tool { | tool } [ > letter ]");
        BENCH.gives("cat b", "1\n2\n");
        BENCH.gives("cat b | tac", "2\n1\n");
        BENCH.gives("cat b | tac | tac | tac | tac | tac", "2\n1\n");
        BENCH.gives("cat b" + "|tac".repeat(2248), "1\n2\n");
        BENCH.refuses("cat b" + "|tac".repeat(2247) + "|frob", 3, 5 + 4 * 2247 + 1);
        BENCH.refuses("cat b > a | tac", 2, 10);
    }

    private static void behindTheArrow() {
        Bench.sentence("Behind > stands one letter a .. j (PLAIN or not), and nothing more");
        String[] good = {"a", "j", "'a'", "'j'", "''a", "a''", "e"};
        for (String letter : good) {
            Session x = BENCH.make();
            Bench.same("> " + letter, Bench.runText(x, "cat b > " + letter + "  "), 2);
            Bench.same("no fault", x.fault(), 0);
        }
        String[] bad = {"k", "`", "A", "J", "aa", "a1", "0", "1", "10", "-", "-a", "''", "' '", "'a '", "\t", "\n", "\0",
            "\u00e1", "?"};
        for (String letter : bad) {
            BENCH.refuses("cat b > " + letter, 2, 8);
        }
        BENCH.refuses("cat b > a b", 2, 10);
        BENCH.refuses("cat b > a ''", 2, 10);
        BENCH.refuses("cat b > a | tac", 2, 10);
        BENCH.refuses("cat b > a > b", 2, 10);
        BENCH.refuses("cat b > a>", 2, 9);
        BENCH.refuses("cat b > a|", 2, 9);
    }

    private static void arrowToAFile() {
        Bench.sentence("then what the last tool gives is that file, and OUT has no lines");
        for (int file = 0; file < 10; file++) {
            Session x = BENCH.make();
            Bench.runText(x, "cat b a");
            Bench.same("> " + file, Bench.runText(x, "cat b | tac > " + (char) ('a' + file)), 2);
            Bench.same("the file " + file, Bench.textOf(x, file), "2\n1\n");
            Bench.same("OUT", x.lines(10), 0);
            for (int other = 0; other < 10; other++) {
                String due = other == 0 ? "x\n" : other == 1 ? "1\n2\n" : other == 2 ? "b\na\n" : other == 3 ? "" : "not there";
                Bench.same("file " + other, Bench.textOf(x, other), other == file ? "2\n1\n" : due);
            }
        }
        Session x = BENCH.make();
        Bench.runText(x, "cat b");
        Bench.same("no lines into a file", Bench.runText(x, "cat d > a"), 0);
        Bench.same("it is there without lines", x.lines(0), 0);
        Bench.same("OUT has none", x.lines(10), 0);
        Bench.same("the file that is read", Bench.runText(x, "cat b b | tac > b"), 4);
        Bench.same("the file that was read", Bench.textOf(x, 1), "2\n1\n2\n1\n");
        Bench.same("OUT again", Bench.runText(x, "cat b"), 4);
        Bench.same("the file stays", Bench.textOf(x, 1), "2\n1\n2\n1\n");
    }

    private static void optionWords() {
        Bench.sentence("OPTIONS are words behind the name that begin with a PLAIN - and have more");
        BENCH.gives("wc -l b", "2\n");
        BENCH.gives("wc -l -w -c b", "2 2 4\n");
        BENCH.gives("wc -lwc b", "2 2 4\n");
        BENCH.gives("wc -lllll b", "2\n");
        BENCH.gives("cat b | wc -", "2 2 4\n");
        BENCH.gives("cat b | wc -''", "2 2 4\n");
        BENCH.gives("cat b | wc '-'", "2 2 4\n");
        BENCH.refuses("wc '-l' b", 6, 3);
        BENCH.refuses("wc - b", 6, 3);
    }

    private static void firstOtherWord() {
        Bench.sentence("the first other word is an operand, all words behind it, too");
        BENCH.refuses("sort b -r", 6, 7);
        BENCH.refuses("sort -r b -r", 6, 10);
        BENCH.refuses("cat b | sort - -r", 6, 15);
        BENCH.refuses("head b -n 1", 6, 7);
        BENCH.refuses("cat a -x", 6, 6);
        BENCH.gives("cat b | tr 12 -d", "-\nd\n");
        BENCH.gives("cat b | tr - -d", "1\n2\n");
        BENCH.gives("cat b | tr -d '-d1'", "\n2\n");
    }

    private static void restOfTheWord() {
        Bench.sentence("one that has a VALUE takes the rest of the word, if there is some");
        BENCH.gives("head -n1 b", "1\n");
        BENCH.gives("tail -n1 b", "2\n");
        BENCH.gives("sort -rk1 b", "2\n1\n");
        BENCH.gives("sort -nrk1,1 b", "2\n1\n");
        BENCH.gives("paste -d-s b b", "1-1\n2-2\n");
        BENCH.gives("paste -sd- b", "1-2\n");
        BENCH.gives("join -12 -a1 b b", " 1\n 2\n");
        BENCH.refuses("sort -k1r b", 5, 5);
        BENCH.refuses("head -n1n b", 5, 5);
        BENCH.refuses("cut -b1s b", 5, 4);
        BENCH.refuses("uniq -f1c b", 5, 5);
        BENCH.gives("cut -sd1 -f1 b", "\n");
        BENCH.refuses("cut -d1s -f1 b", 5, 4);
    }

    private static void nextWord() {
        Bench.sentence("else the next word (but | and >), whatever it is");
        BENCH.gives("head -n 1 b", "1\n");
        BENCH.gives("sort -rk 1 b", "2\n1\n");
        BENCH.gives("paste -d - b b", "1-1\n2-2\n");
        BENCH.gives("paste -d -s b b", "1-1\n2-2\n");
        BENCH.gives("paste -d a b b", "1a1\n2a2\n");
        BENCH.gives("paste -d '|' b b", "1|1\n2|2\n");
        BENCH.gives("paste -d '>' b b", "1>1\n2>2\n");
        BENCH.gives("join -e -o -o 0,1.2 b b", "1 -o\n2 -o\n");
        BENCH.gives("join -e - -o 0,1.2 b b", "1 -\n2 -\n");
        BENCH.gives("head -n'' 1 b", "1\n");
        BENCH.refuses("head -n -n b", 5, 8);
        BENCH.refuses("head -n - b", 5, 8);
        BENCH.refuses("head -n b", 5, 8);
        BENCH.refuses("paste -d | cat b", 5, 9);
        BENCH.refuses("paste -d > b", 5, 9);
    }

    private static void toldAgain() {
        Bench.sentence("An option told again counts as told latest");
        Bench b = new Bench().file('a', "x:1-z\ny:2-w\n").file('b', "1\n2\n3\n");
        b.gives("head -n 1 -n 2 b", "1\n2\n");
        b.gives("head -n 2 -n 1 b", "1\n");
        b.gives("tail -n1 -n2 -n1 b", "3\n");
        b.gives("cut -b 1 -b 2-3 a", ":1\n:2\n");
        b.gives("cut -b 2- -b 1 a", "x\ny\n");
        b.gives("cut -d : -d - -f 1 -f 2 a", "z\nw\n");
        b.gives("cut -f 1 -d - -f 2 -d : a", "1-z\n2-w\n");
        b.gives("paste -d xyz -d : b b b", "1:1:1\n2:2:2\n3:3:3\n");
        b.gives("uniq -f 1 -f 2 a", "x:1-z\n");
        b.gives("sort -t - -t : -k 1 -k 2 -r a", "y:2-w\nx:1-z\n");
        b.gives("sort -t - -k 1,1 -k 2 a", "y:2-w\nx:1-z\n");
        b.gives("sort -t - -k 2 -k 1,1 a", "x:1-z\ny:2-w\n");
        b.gives("sort -r -r b", "3\n2\n1\n");
        b.gives("wc -l -l b", "3\n");
        b.gives("join -1 2 -1 1 -2 9 -2 1 b b", "1\n2\n3\n");
        b.gives("join -t - -t : -1 1 a a", "x:1-z:1-z\ny:2-w:2-w\n");
        b.gives("join -o 0,0 -o 1.1 b b", "1\n2\n3\n");
        b.gives("join -e long -e s -o 1.2 b b", "s\ns\ns\n");
        b.gives("join -e long -e '' -o 1.2,0 b b", " 1\n 2\n 3\n");
        b.refuses("head -n 0 -n 1 b", 5, 8);
    }

    private static void toldAgainInJoin() {
        Bench.sentence("(a and v of join: each N that was told)");
        Bench b = new Bench().file('a', "1\n2\n").file('b', "2\n3\n");
        b.gives("join -a 1 a b", "1\n2\n");
        b.gives("join -a 2 a b", "2\n3\n");
        b.gives("join -a 1 -a 2 a b", "1\n2\n3\n");
        b.gives("join -a 2 -a 1 a b", "1\n2\n3\n");
        b.gives("join -a 2 -a 2 a b", "2\n3\n");
        b.gives("join -v 1 a b", "1\n");
        b.gives("join -v 2 a b", "3\n");
        b.gives("join -v 1 -v 2 a b", "1\n3\n");
        b.gives("join -v 2 -v 1 a b", "1\n3\n");
        b.gives("join -a 1 -v 2 a b", "1\n3\n");
        b.gives("join -v 1 -a 2 a b", "1\n3\n");
        b.gives("join -a1 -a2 -v1 -v2 a b", "1\n3\n");
    }

    private static void operandLetters() {
        Bench.sentence("OPERANDS are FILES by their letters, or - : what the tool before gives.");
        String[] bad = {"k", "`", "A", "J", "aa", "ab", "0", "1", "\t", "\u00e1", "a.", "--", "'a '"};
        for (String word : bad) {
            BENCH.refuses("cat a " + word, 6, 6);
        }
        BENCH.gives("cat 'a'", "x\n");
        BENCH.gives("cat b | cat a - c", "x\n1\n2\nb\na\n");
        BENCH.gives("cat b | tac | cat a '-'", "x\n2\n1\n");
        BENCH.gives("cat d | cat -", "");
    }

    private static void noneToldIsDash() {
        Bench.sentence("Where a tool takes [A], none told is - .");
        String[] tools = {"tac", "rev", "head -n 9", "tail", "cut -b 1-", "cut -f 1-", "uniq", "sort"};
        for (String tool : tools) {
            boolean turned = tool.equals("tac");
            BENCH.gives("cat b | " + tool, turned ? "2\n1\n" : "1\n2\n");
            BENCH.gives("cat b | " + tool + " -", turned ? "2\n1\n" : "1\n2\n");
        }
        BENCH.gives("cat b | wc", "2 2 4\n");
        BENCH.gives("cat b | tr 1 2", "2\n2\n");
        BENCH.refuses("cat b | cat", 6, 8);
        BENCH.refuses("cat b | paste", 6, 8);
        BENCH.refuses("cat b | comm", 6, 8);
        BENCH.refuses("cat b | comm b", 6, 8);
        BENCH.refuses("cat b | join", 6, 8);
        BENCH.refuses("cat b | join b", 6, 8);
    }

    private static void dashInTheFirstTool() {
        Bench.sentence("No - in the first tool");
        BENCH.refuses("cat -", 6, 4);
        BENCH.refuses("cat a -", 6, 6);
        BENCH.refuses("cat '-'", 6, 4);
        BENCH.refuses("comm - a", 6, 5);
        BENCH.refuses("comm a -", 6, 7);
        BENCH.refuses("join a -", 6, 7);
        BENCH.refuses("paste a -", 6, 8);
        BENCH.refuses("sort a -", 6, 7);
        for (String tool : ONE_FILE) {
            BENCH.refuses(tool + " -", 6, tool.length() + 1);
            BENCH.refuses(tool + " - | cat -", 6, tool.length() + 1);
        }
        BENCH.gives("cat a | cat -", "x\n");
        BENCH.gives("cat a | cat - | cat -", "x\n");
    }

    private static void secondDash() {
        Bench.sentence("no second - in one");
        BENCH.refuses("cat a | cat - -", 6, 14);
        BENCH.refuses("cat a | cat - b -", 6, 16);
        BENCH.refuses("cat a | cat - '-'", 6, 14);
        BENCH.refuses("cat a | paste - -", 6, 16);
        BENCH.refuses("cat a | sort - -", 6, 15);
        BENCH.refuses("cat a | comm - -", 6, 15);
        BENCH.refuses("cat a | join - -", 6, 15);
        BENCH.refuses("cat a | wc - -", 6, 13);
        BENCH.gives("cat a | cat - | cat - b", "x\n1\n2\n");
    }

    private static void fileToldTwice() {
        Bench.sentence("a file may be told twice");
        BENCH.gives("cat b b", "1\n2\n1\n2\n");
        BENCH.gives("paste b b", "1\t1\n2\t2\n");
        BENCH.gives("sort b b", "1\n1\n2\n2\n");
        BENCH.gives("comm b b", "\t\t1\n\t\t2\n");
        BENCH.gives("join b b", "1\n2\n");
        BENCH.gives("cat b | cat b - b", "1\n2\n1\n2\n1\n2\n");
    }

    private static void numbers() {
        Bench.sentence("NUMBERS (N) are digits, 1 to 5 of them, not 0.");
        String[] takers = {"head -n ", "tail -n ", "uniq -f ", "cut -b ", "cut -f ", "sort -k ", "sort -k 1,", "join -1 ", "join -2 ",
            "join -o 1.", "join -o 2.", "cut -b 1-", "cut -b -"};
        String[] bad = {"0", "00", "00000", "000000", "000001", "100000", "999999", "1a", "a1", "+1", "1.", " 1", "1 ", "/", ":",
            "\u00b9", "0x1", "1\0", "4294967297"};
        for (String taker : takers) {
            String files = taker.startsWith("join") ? " d d" : " d";
            String[] good = {"1", "9", "01", "00001", "99999"};
            for (String n : good) {
                BENCH.gives(taker + "'" + n + "'" + files, "");
            }
            for (String n : bad) {
                String before = taker.substring(0, taker.lastIndexOf(' ') + 1);
                BENCH.refuses(taker + "'" + n + "'" + files, 5, before.length());
            }
        }
        BENCH.gives("head -n 00002 b", "1\n2\n");
        BENCH.gives("head -n 99999 b", "1\n2\n");
        BENCH.gives("head -n 00001 b", "1\n");
        BENCH.gives("cut -b 00001 b", "1\n2\n");
        BENCH.gives("cut -b 99999 b", "\n\n");
    }

    private static void lists() {
        Bench.sentence("A LIST is parts with , between: N, N-, -N, N-N (the second not less).");
        Bench b = new Bench().file('a', "abcdefgh\n");
        b.gives("cut -b 3 a", "c\n");
        b.gives("cut -b 3- a", "cdefgh\n");
        b.gives("cut -b -3 a", "abc\n");
        b.gives("cut -b -1 a", "a\n");
        b.gives("cut -b 8- a", "h\n");
        b.gives("cut -b 9- a", "\n");
        b.gives("cut -b 3-5 a", "cde\n");
        b.gives("cut -b 3-3 a", "c\n");
        b.gives("cut -b 1,3,5 a", "ace\n");
        b.gives("cut -b 7-,-2,4-4 a", "abdgh\n");
        b.gives("cut -b 5,5,4-6,5- a", "defgh\n");
        b.gives("cut -b 8-99999 a", "h\n");
        String[] bad = {"3-2", "2-1", "99999-99998", "-", "--", "---", "1--", "--1", "1--2", ",", ",,", "1,", ",1", "1,,2", "-,1", "1,-",
            "1-2-3", "1-2-", "-1-2", "", "1, 2", "1;2", "a", "1-a", "a-2", "0", "1-0", "0-", "-0", "1,0", "1,3-2"};
        for (String list : bad) {
            b.refuses("cut -b '" + list + "' a", 5, 7);
            b.refuses("cut -f '" + list + "' a", 5, 7);
        }
    }

    private static void oneByte() {
        Bench.sentence("A C is one byte.");
        Bench b = new Bench().file('a', "x:1\ny\u00ff2\nz 3\nw-4\nv\t5\n");
        b.gives("cut -s -d : -f 2 a", "1\n");
        b.gives("cut -s -d\u00ff -f 2 a", "2\n");
        b.gives("cut -s -d ' ' -f 2 a", "3\n");
        b.gives("cut -s -d - -f 2 a", "4\n");
        b.gives("cut -s -d '\t' -f 2 a", "5\n");
        b.gives("cut -s -d '\0' -f 2 a", "");
        b.gives("cut -s -d ''':' -f 2 a", "1\n");
        String[] bad = {"''", "::", "': '", "'  '", "\\t", "ab"};
        String[] takers = {"cut -f 1 -d ", "sort -t ", "join -t "};
        for (String taker : takers) {
            for (String c : bad) {
                b.refuses(taker + c + (taker.startsWith("join") ? " a a" : " a"), 5, taker.length());
            }
        }
    }

    private static void loneQuote() {
        Bench.sentence("First 1: a ' without another one: at it.");
        BENCH.refuses("'", 1, 0);
        BENCH.refuses("'''", 1, 2);
        BENCH.refuses("cat a'", 1, 5);
        BENCH.refuses("cat 'a' 'b", 1, 8);
        BENCH.refuses("| frob > ' | k", 1, 9);
        BENCH.refuses("frob -x 'a", 1, 8);
        BENCH.refuses("cat k | head -n 0 '", 1, 18);
        BENCH.refuses("cat e '", 1, 6);
        BENCH.refuses("cat a > b c '", 1, 12);
        BENCH.refuses(" ".repeat(8999) + "'", 1, 8999);
    }

    private static void firstFaultCounts() {
        Bench.sentence("Then, word by word, the first one counts");
        BENCH.refuses("frob -x k | | > k", 3, 0);
        BENCH.refuses("tac -x k | frob", 4, 4);
        BENCH.refuses("head -n 0 -x k | frob", 5, 8);
        BENCH.refuses("head -x -n 0 k | frob", 4, 5);
        BENCH.refuses("head -n 1 k | frob", 6, 10);
        BENCH.refuses("head | frob", 6, 0);
        BENCH.refuses("head a | frob | head -n 0", 3, 9);
        BENCH.refuses("head a | | frob", 2, 9);
        BENCH.refuses("head a b | frob", 6, 7);
        BENCH.refuses("cut -b 1 -f 1 k", 6, 14);
        BENCH.refuses("cut -b 1 -f 1 a b", 6, 16);
        BENCH.refuses("cut -b 1 -f 1 a > k", 6, 0);
        BENCH.refuses("cat > k", 6, 0);
        BENCH.refuses("cat a > k", 2, 8);
        BENCH.refuses("cat e > k", 2, 8);
        BENCH.refuses("cat e | frob", 3, 8);
        BENCH.refuses("comm c c | tac -x", 4, 15);
        BENCH.refuses("uniq -xf0 a", 4, 5);
        BENCH.refuses("uniq -f0x a", 5, 5);
        BENCH.refuses("uniq -cx -f 0 a", 4, 5);
        BENCH.refuses("tr b-a x", 5, 3);
        BENCH.refuses("tr a b c", 6, 7);
    }

    private static void noName() {
        Bench.sentence("2 at |, > or the text's length, where a tool's name must stand");
        BENCH.refuses("", 2, 0);
        BENCH.refuses(" ", 2, 1);
        BENCH.refuses("|", 2, 0);
        BENCH.refuses("  | cat a", 2, 2);
        BENCH.refuses(">", 2, 0);
        BENCH.refuses(" > a", 2, 1);
        BENCH.refuses("cat a |", 2, 7);
        BENCH.refuses("cat a |   ", 2, 10);
        BENCH.refuses("cat a | |", 2, 8);
        BENCH.refuses("cat a | > b", 2, 8);
        BENCH.refuses("cat a | tac |", 2, 13);
    }

    private static void notAsSaidBehindTheArrow() {
        Bench.sentence("at >, or at a word behind it, or the text's length, where that is not as said");
        BENCH.refuses("cat a >", 2, 7);
        BENCH.refuses("cat a >   ", 2, 10);
        BENCH.refuses("cat a > >", 2, 8);
        BENCH.refuses("cat a > |", 2, 8);
        BENCH.refuses("cat a > k", 2, 8);
        BENCH.refuses("cat a > bc", 2, 8);
        BENCH.refuses("cat a > k > b", 2, 8);
        BENCH.refuses("cat a > b c", 2, 10);
        BENCH.refuses("cat a > b > c", 2, 10);
        BENCH.refuses("cat a > b | tac", 2, 10);
    }

    private static void noSuchTool() {
        Bench.sentence("3 at a name that is no tool's.");
        String[] bad = {"frob", "Cat", "CAT", "ca", "cata", "c", "-", "-n", "a", "''", "'cat '", "' cat'", "cat\0", "\u00ff",
            "tacc", "sor", "grep"};
        for (String name : bad) {
            BENCH.refuses(name, 3, 0);
            BENCH.refuses(name + " a", 3, 0);
            BENCH.refuses("cat a | " + name, 3, 8);
        }
        String[] good = {"cat", "tac", "rev", "head", "tail", "wc", "uniq", "sort", "paste", "cut -b 1", "comm d", "join d"};
        for (String name : good) {
            BENCH.gives(name + " d", name.equals("wc") ? "0 0 0\n" : "");
        }
        BENCH.gives("cat d | tr a b", "");
    }

    private static void noSuchOption() {
        Bench.sentence("4 at a word with a letter that is no option of the tool.");
        String[] names = {"cat", "tac", "rev", "head", "tail", "wc", "cut", "paste", "uniq", "sort", "comm", "join", "tr"};
        String[] options = {"", "", "", "n", "n", "lwc", "fdsb", "sd", "cduf", "rnutk", "123", "t12aveo", "ds"};
        for (int i = 0; i < names.length; i++) {
            for (int b = 33; b < 256; b++) {
                boolean special = b == '\'' || b == '|' || b == '>';
                if (!special && options[i].indexOf(b) < 0) {
                    BENCH.refuses(names[i] + "  -" + (char) b + " 1 a", 4, names[i].length() + 2);
                }
            }
            BENCH.refuses(names[i] + " -- a", 4, names[i].length() + 1);
            BENCH.refuses(names[i] + " -' ' a", 4, names[i].length() + 1);
        }
        BENCH.refuses("sort -rx b", 4, 5);
        BENCH.refuses("sort -xr b", 4, 5);
        BENCH.refuses("sort -r -n -ux b", 4, 11);
        BENCH.refuses("comm -124 b b", 4, 5);
        BENCH.refuses("comm -0 b b", 4, 5);
    }

    private static void badValue() {
        Bench.sentence("5 at a VALUE that is not as its option wants it (at the word in which it stands");
        BENCH.refuses("head -n x b", 5, 8);
        BENCH.refuses("head -nx b", 5, 5);
        BENCH.refuses("head   -n   x b", 5, 12);
        BENCH.refuses("cut -sf 0 b", 5, 8);
        BENCH.refuses("cut -sf0 b", 5, 4);
        BENCH.refuses("cut -f 1 -d:: b", 5, 9);
        BENCH.refuses("paste -d '' b", 5, 9);
        BENCH.refuses("paste -d\\ b", 5, 6);
        BENCH.refuses("uniq -cf 0 b", 5, 9);
        BENCH.refuses("sort -rk 0 b", 5, 9);
        BENCH.refuses("sort -t xx b", 5, 8);
        String[] badKeys = {"0", "1,0", "0,1", "2,1", "99999,99998", ",", "1,", ",1", "1,2,3", "1.1", "1-2", "''", "100000", "1,100000"};
        for (String key : badKeys) {
            BENCH.refuses("sort -k " + key + " b", 5, 8);
        }
        BENCH.gives("sort -k 2,2 d", "");
        BENCH.gives("sort -k 99999,99999 d", "");
        String[] badSides = {"0", "3", "12", "''", "a", "-1", "1,2"};
        for (String side : badSides) {
            BENCH.refuses("join -a " + side + " b b", 5, 8);
            BENCH.refuses("join -v " + side + " b b", 5, 8);
        }
        String[] badParts = {"1", "2", "0.1", "3.1", "1.0", "1.", ".1", "1.1.1", "0,", ",0", ",", "''", "0,,0", "1.100000",
            "1.1,3.1", "'0 '"};
        for (String parts : badParts) {
            BENCH.refuses("join -o " + parts + " b b", 5, 8);
        }
        BENCH.gives("join -o 0,1.1,2.1,1.99999,2.00001 d d", "");
    }

    private static void noValue() {
        Bench.sentence("at |, > or the text's length if there is none");
        String[] takers = {"head -n", "tail -n", "cut -f", "cut -d", "cut -b", "cut -sd", "paste -d", "paste -sd", "uniq -f", "uniq -cf",
            "sort -t", "sort -k", "sort -rk", "join -t", "join -1", "join -2", "join -a", "join -v", "join -e", "join -o"};
        for (String taker : takers) {
            BENCH.refuses(taker, 5, taker.length());
            BENCH.refuses(taker + "  ", 5, taker.length() + 2);
            BENCH.refuses(taker + "''", 5, taker.length() + 2);
            BENCH.refuses(taker + "|cat b", 5, taker.length());
            BENCH.refuses(taker + " | cat b", 5, taker.length() + 1);
            BENCH.refuses(taker + ">b", 5, taker.length());
            BENCH.refuses(taker + "  > b", 5, taker.length() + 2);
        }
    }

    private static void badOperand() {
        Bench.sentence("6 at an operand that is none");
        BENCH.refuses("cat k", 6, 4);
        BENCH.refuses("cat a b ab", 6, 8);
        BENCH.refuses("sort 1", 6, 5);
        BENCH.refuses("comm a ''", 6, 7);
        BENCH.refuses("join a B", 6, 7);
        BENCH.refuses("paste a -s", 6, 8);
        BENCH.refuses("cat a | wc --''", 4, 11);
        for (String tool : ONE_FILE) {
            BENCH.refuses(tool + " k", 6, tool.length() + 1);
        }
    }

    private static void operandsTooMany() {
        Bench.sentence("6 at an operand that is none, or one too many (also - where it may not be)");
        for (String tool : ONE_FILE) {
            BENCH.refuses(tool + " b a", 6, tool.length() + 3);
            BENCH.refuses("cat b | " + tool + " - a", 6, tool.length() + 11);
        }
        BENCH.gives("cat" + " d".repeat(20), "");
        BENCH.refuses("cat" + " d".repeat(21), 6, 44);
        BENCH.gives("paste" + " d".repeat(8), "");
        BENCH.refuses("paste" + " d".repeat(9), 6, 22);
        BENCH.gives("paste -s" + " d".repeat(8), "\n".repeat(8));
        BENCH.refuses("paste -s" + " d".repeat(9), 6, 25);
        BENCH.gives("sort" + " d".repeat(11), "");
        BENCH.refuses("sort" + " d".repeat(12), 6, 27);
        BENCH.gives("cat a | sort -" + " d".repeat(10), "x\n");
        BENCH.refuses("cat a | sort -" + " d".repeat(11), 6, 35);
        BENCH.refuses("comm b b b", 6, 9);
        BENCH.refuses("join b b b", 6, 9);
        BENCH.refuses("cat a | tr a b c", 6, 15);
        BENCH.refuses("cat a | tr -s a b c", 6, 18);
        BENCH.refuses("cat a | tr -d -s a b c", 6, 21);
    }

    private static void operandsTooFew() {
        Bench.sentence("and, behind a tool's last word, at its name: operands too few");
        String[] few = {"cat", "paste", "paste -s", "paste -d x", "comm", "comm -1", "comm b", "join", "join -t :", "join b"};
        for (String tool : few) {
            BENCH.refuses(tool, 6, 0);
            BENCH.refuses("  " + tool + "  ", 6, 2);
            BENCH.refuses(tool + " | cat b", 6, 0);
            BENCH.refuses(tool + " > b", 6, 0);
            BENCH.refuses("cat b | " + tool, 6, 8);
        }
        BENCH.refuses("cat b | comm -", 6, 8);
        BENCH.refuses("cat b | join -", 6, 8);
        BENCH.refuses("cat b | tr", 6, 8);
        BENCH.refuses("cat b | tr a", 6, 8);
        BENCH.refuses("cat b | tr -d", 6, 8);
        BENCH.refuses("cat b | tr -s", 6, 8);
        BENCH.refuses("cat b | tr -ds a", 6, 8);
    }

    private static void dashTakenByTheFirst() {
        Bench.sentence("at its name: operands too few, - that would be taken by the first tool");
        for (String tool : ONE_FILE) {
            BENCH.refuses(tool, 6, 0);
            BENCH.refuses(" " + tool + " | cat -", 6, 1);
            BENCH.refuses(tool + " > a", 6, 0);
        }
        BENCH.refuses("sort", 6, 0);
        BENCH.refuses("sort -r", 6, 0);
        BENCH.refuses("tr a b", 6, 0);
        BENCH.refuses("tr -d a", 6, 0);
        BENCH.refuses("  tr -s a", 6, 2);
        BENCH.refuses("tr -ds a b | cat -", 6, 0);
    }

    private static void optionsThatDoNotGo() {
        Bench.sentence("options that do not go together or lack");
        String[] bad = {"cut", "cut -s", "cut -d :", "cut -s -d :", "cut -f 1 -b 1", "cut -b 1 -f 1", "cut -b 1 -d :", "cut -d : -b 1",
            "cut -b 1 -s", "cut -sb 1", "cut -f 1 -b 1 -s", "cut -b 1 -d : -f 1"};
        for (String tool : bad) {
            BENCH.refuses(tool + " b", 6, 0);
            BENCH.refuses("  " + tool + " b | frob", 6, 2);
            BENCH.refuses("cat b | " + tool, 6, 8);
            BENCH.refuses("cat b | " + tool + " -", 6, 8);
        }
        String[] good = {"cut -f 1", "cut -f 1 -s", "cut -f 1 -d :", "cut -s -d : -f 1", "cut -b 1"};
        for (String tool : good) {
            BENCH.gives(tool + " d", "");
        }
    }

    private static void fileNotThere() {
        Bench.sentence("7 at an operand: that file is not there (operands from the left).");
        BENCH.refuses("cat e", 7, 4);
        BENCH.refuses("cat a e", 7, 6);
        BENCH.refuses("cat e f", 7, 4);
        BENCH.refuses("cat a f e", 7, 6);
        BENCH.refuses("cat" + " a".repeat(19) + " e", 7, 42);
        BENCH.refuses("comm e a", 7, 5);
        BENCH.refuses("comm a e", 7, 7);
        BENCH.refuses("comm c e", 7, 7);
        BENCH.refuses("join a 'e'", 7, 7);
        BENCH.refuses("cat a | paste - ''e", 7, 16);
        BENCH.refuses("sort" + " a".repeat(10) + " j", 7, 25);
        for (String tool : ONE_FILE) {
            BENCH.refuses(tool + " e", 7, tool.length() + 1);
        }
        BENCH.gives("cat d", "");
    }

    private static void toolsFromTheLeft() {
        Bench.sentence("Then the tools are done, from the left");
        Bench b = new Bench().file('a', "x\n").file('c', "b\na\n").file('d', "1\n".repeat(300));
        b.refuses("cat e | cat f", 7, 4);
        b.refuses("cat a | cat f | cat e", 7, 12);
        b.refuses("comm c a | cat e", 8, 0, 2, 1);
        b.refuses("cat e | comm c a", 7, 4);
        b.refuses("cat d d | cat e", 9, 0);
        b.refuses("cat e | cat d d", 7, 4);
        b.refuses("cat d d | comm c a", 9, 0);
        b.refuses("comm c a | cat d d", 8, 0, 2, 1);
        b.refuses("cat a | tac | cat - d | cat e", 9, 14);
        b.refuses("cat d | cat - d e", 7, 16);
    }

    private static void notSorted() {
        Bench.sentence("8 at a tool's name: comm, join: A or B is NOT SORTED: the first line of A that is less than the one before it");
        Bench b = new Bench().file('a', "b\na\n").file('b', "a\na\nb\nb\n").file('c', "a\nc\nb\na\n").file('d', "").file('e', "z\n")
            .file('f', "aa\na\n").file('g', "a\n\n").file('h', "z 1\na 2\nb 2\n");
        b.refuses("comm a b", 8, 0, 2, 1);
        b.refuses("comm c b", 8, 0, 3, 1);
        b.refuses("comm f b", 8, 0, 2, 1);
        b.refuses("comm g b", 8, 0, 2, 1);
        b.refuses("  comm -123 c d", 8, 2, 3, 1);
        b.refuses("join a d", 8, 0, 2, 1);
        b.refuses("join c d", 8, 0, 3, 1);
        b.refuses("cat d | join c -", 8, 8, 3, 1);
        b.gives("comm b b", "\t\ta\n\t\ta\n\t\tb\n\t\tb\n");
        b.gives("comm e e", "\t\tz\n");
        b.gives("comm d d", "");
        b.gives("join -1 2 -v 1 h d", "1 z\n2 a\n2 b\n");
        b.refuses("join h d", 8, 0, 2, 1);
        b.gives("join -1 3 -v 1 h d", " z 1\n a 2\n b 2\n");
    }

    private static void notSortedInAFirst() {
        Bench.sentence("(join: whose key is), else of B, is told by line(), side()");
        Bench b = new Bench().file('a', "b\na\n").file('b', "a\nb\n").file('c', "b\nc\na\n").file('d', "1 b\n2 a\n");
        b.refuses("comm c a", 8, 0, 3, 1);
        b.refuses("comm a c", 8, 0, 2, 1);
        b.refuses("comm b c", 8, 0, 3, 2);
        b.refuses("comm b a", 8, 0, 2, 2);
        b.refuses("join c a", 8, 0, 3, 1);
        b.refuses("join b c", 8, 0, 3, 2);
        b.refuses("cat c | comm b -", 8, 8, 3, 2);
        b.refuses("cat b | comm - c", 8, 8, 3, 2);
        b.gives("join -v 2 b d", "1 b\n2 a\n");
        b.refuses("join -2 2 b d", 8, 0, 2, 2);
        b.refuses("join -1 2 d b", 8, 0, 2, 1);
        b.refuses("join -1 2 -2 2 d d", 8, 0, 2, 1);
        b.gives("comm b d", "\t1 b\n\t2 a\na\nb\n");
    }

    private static void tooLong() {
        Bench.sentence("9 at a tool's name: a line would have more than 240 bytes");
        String y = "y".repeat(240);
        Bench b = new Bench().file('a', y + "\n").file('b', y.substring(1) + "\n").file('c', "").file('d', y.substring(120) + "\n")
            .file('e', y.substring(5) + "\n").file('f', y.substring(4) + "\n").file('g', y.substring(2) + "\n")
            .file('h', "k " + y.substring(121) + "\n").file('i', "k " + y.substring(122) + "\n");
        b.gives("paste b c", y.substring(1) + "\t\n");
        b.refuses("paste a c", 9, 0);
        b.refuses("paste c a", 9, 0);
        b.refuses("cat a | paste - c | cut -b 1", 9, 8);
        b.gives("paste -d '\\0' d d", y + "\n");
        b.refuses("paste d d", 9, 0);
        b.refuses("cat d d | paste -s -", 9, 10);
        b.gives("cat d d | paste -s -d '\\0' -", y + "\n");
        b.gives("uniq -c e", "   1 " + y.substring(5) + "\n");
        b.refuses("uniq -c f", 9, 0);
        b.gives("uniq -cd f", "");
        b.gives("comm a c", y + "\n");
        b.refuses("comm c a", 9, 0);
        b.gives("comm c b", "\t" + y.substring(1) + "\n");
        b.gives("comm -1 c a", y + "\n");
        b.gives("comm g g", "\t\t" + y.substring(2) + "\n");
        b.refuses("comm b b", 9, 0);
        b.gives("comm -1 b b", "\t" + y.substring(1) + "\n");
        b.gives("comm -2 b b", "\t" + y.substring(1) + "\n");
        b.refuses("comm -2 a a", 9, 0);
        b.gives("comm -12 a a", y + "\n");
        b.gives("comm -3 a a", "");
        b.gives("comm -2 c a", "");
        b.gives("join h i", "k " + y.substring(121) + " " + y.substring(122) + "\n");
        b.refuses("join h h", 9, 0);
        b.gives("join -v 1 h h", "");
        b.gives("join -o 0 a a", y + "\n");
        b.refuses("join -o 0,1.2 a a", 9, 0);
        b.gives("join -o 1.2 -e " + y + " a a", y + "\n");
        b.refuses("join -o 1.2 -e " + y + "y a a", 9, 0);
        b.gives("join -o 1.1 -e " + y + "y a a", y + "\n");
        b.refuses("join -1 2 -a 1 a c", 9, 0);
        b.gives("join -1 2 -a 1 b c", " " + y.substring(1) + "\n");
    }

    private static void tooMany() {
        Bench.sentence("or it gives more than 300 lines");
        Bench b = new Bench().file('a', "1\n".repeat(300)).file('b', "2\n").file('c', "").file('d', "k\n".repeat(20))
            .file('e', "k\n".repeat(15)).file('f', "k\n".repeat(16)).file('g', "\n");
        b.gives("cat a | wc -l", "300\n");
        b.refuses("cat a b", 9, 0);
        b.refuses("cat a g", 9, 0);
        b.gives("cat a c | wc -l", "300\n");
        b.refuses("cat b | cat - a | head", 9, 8);
        b.refuses("sort a b", 9, 0);
        b.refuses("sort a g", 9, 0);
        b.gives("sort a c | wc -l", "300\n");
        b.gives("sort -u a b", "1\n2\n");
        b.gives("sort -u a a a a a a a a a a a", "1\n");
        b.refuses("comm a b", 9, 0);
        b.refuses("comm b a", 9, 0);
        b.gives("comm -2 a b | wc -l", "300\n");
        b.gives("comm -1 a b", "2\n");
        b.gives("comm a c | wc -l", "300\n");
        b.gives("comm a a | wc -l", "300\n");
        b.gives("join d e | wc -l", "300\n");
        b.refuses("join d f", 9, 0);
        b.gives("join -v 1 -v 2 d f", "");
        b.refuses("join -a 1 -a 2 a b", 9, 0);
        b.gives("join -a 1 a b | wc -l", "300\n");
        b.refuses("join -v 1 -v 2 a b", 9, 0);
        b.gives("paste a b | wc -l", "300\n");
    }

    private static void notSortedBeforeTooMany() {
        Bench.sentence("or it gives more than 300 lines (and no 8)");
        Bench b = new Bench().file('a', "1\n".repeat(300)).file('b', "2\n".repeat(299) + "1\n").file('c', "y".repeat(240) + "\na\n");
        b.refuses("comm a b", 8, 0, 300, 2);
        b.refuses("comm b a", 8, 0, 300, 1);
        b.refuses("join -a 1 -a 2 a b", 8, 0, 300, 2);
        b.refuses("join b b", 8, 0, 300, 1);
        b.refuses("comm a c", 8, 0, 2, 2);
        b.refuses("join -o 0,0 a c", 8, 0, 2, 2);
        b.refuses("join -o 0,0 c c", 8, 0, 2, 1);
    }
}

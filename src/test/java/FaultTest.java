/** Promises 6 to 9: what a command is, where it is refused, and what is told of that. */
public final class FaultTest {
    private static final Bench BENCH = new Bench().file('a', "x\n").file('b', "1\n2\n").file('c', "b\na\n").file('d', "");

    public static void main(String[] args) {
        words();
        quotes();
        form();
        names();
        options();
        numbers();
        lists();
        otherValues();
        sets();
        operands();
        wholeTools();
        notThere();
        notSorted();
        tooManyLines();
        tooLongLines();
        firstFaultCounts();
        targets();
        latestRun();
        longCommands();
        Bench.finish();
    }

    private static void words() {
        BENCH.gives("cat a", "x\n");
        BENCH.gives("   cat   a   ", "x\n");
        BENCH.gives("cat a|tac|rev -", "x\n");
        BENCH.gives("cat a | cat - b", "x\n1\n2\n");
        BENCH.refuses("cat\ta", 3, 0);
        BENCH.refuses("cat a\n", 6, 4);
    }

    private static void quotes() {
        BENCH.gives("'cat' 'a'", "x\n");
        BENCH.gives("c''a't' ''a", "x\n");
        BENCH.gives("head ''-n1 b", "1\n");
        BENCH.gives("head -'n'1 b", "1\n");
        BENCH.gives("head -n'1' b", "1\n");
        BENCH.gives("head -n'' 1 b", "1\n");
        BENCH.gives("cat a | cat '-'", "x\n");
        BENCH.refuses("cat a | cat '-' -''", 6, 16);
        BENCH.gives("cat a | tr x '|'", "|\n");
        BENCH.gives("cat a | tr x '> '", ">\n");
        BENCH.refuses("'", 1, 0);
        BENCH.refuses("cat 'a", 1, 4);
        BENCH.refuses("cat 'a' '' b'", 1, 12);
        BENCH.refuses("frob | | 'a", 1, 9);
        BENCH.refuses("head '-n1' a", 6, 5);
        BENCH.refuses("head '-'n1 a", 6, 5);
        BENCH.refuses("'|'", 3, 0);
        BENCH.refuses("''", 3, 0);
        BENCH.refuses("cat a '|' tac", 6, 6);
        BENCH.refuses("cat a '>' b", 6, 6);
        BENCH.refuses("cat a b''k", 6, 6);
    }

    private static void form() {
        BENCH.refuses("", 2, 0);
        BENCH.refuses("   ", 2, 3);
        BENCH.refuses("|", 2, 0);
        BENCH.refuses(" > a", 2, 1);
        BENCH.refuses("cat a |", 2, 7);
        BENCH.refuses("cat a |  ", 2, 9);
        BENCH.refuses("cat a ||tac", 2, 7);
        BENCH.refuses("cat a | > b", 2, 8);
        BENCH.refuses("cat a >", 2, 7);
        BENCH.refuses("cat a >  ", 2, 9);
        BENCH.refuses("cat a > > b", 2, 8);
        BENCH.refuses("cat a > | b", 2, 8);
        BENCH.refuses("cat a > k", 2, 8);
        BENCH.refuses("cat a > A", 2, 8);
        BENCH.refuses("cat a > -", 2, 8);
        BENCH.refuses("cat a > ''", 2, 8);
        BENCH.refuses("cat a >bb", 2, 7);
        BENCH.refuses("cat a > b c", 2, 10);
        BENCH.refuses("cat a > b | tac", 2, 10);
        BENCH.refuses("cat a > b > c", 2, 10);
    }

    private static void names() {
        BENCH.refuses("frob", 3, 0);
        BENCH.refuses("  Cat a", 3, 2);
        BENCH.refuses("cata", 3, 0);
        BENCH.refuses("ca a", 3, 0);
        BENCH.refuses("-", 3, 0);
        BENCH.refuses("cat a | cat- a", 3, 8);
    }

    private static void options() {
        BENCH.refuses("cat -x a", 4, 4);
        BENCH.refuses("cat -- a", 4, 4);
        BENCH.refuses("head -1 a", 4, 5);
        BENCH.refuses("sort -rx a", 4, 5);
        BENCH.refuses("sort -r -nux a", 4, 8);
        BENCH.refuses("comm -4 a b", 4, 5);
        BENCH.refuses("wc -l\u00ff a", 4, 3);
        BENCH.refuses("wc -n a", 4, 3);
        BENCH.refuses("tac -n 1 a", 4, 4);
        BENCH.refuses("rev -n 1 a", 4, 4);
        BENCH.refuses("uniq -s a", 4, 5);
        BENCH.refuses("cat b | tr -x 1 2", 4, 11);
        BENCH.refuses("uniq -xf 0 a", 4, 5);
        BENCH.refuses("sort a -r", 6, 7);
        BENCH.gives("sort -nr b", "2\n1\n");
        BENCH.gives("sort -rk1 b", "2\n1\n");
        BENCH.gives("sort -rk 1 b", "2\n1\n");
        BENCH.gives("head -n 2 -n 1 b", "1\n");
        BENCH.gives("sort -r -r b", "2\n1\n");
        BENCH.gives("sort -k 2 -k 1 -r b", "2\n1\n");
    }

    private static void numbers() {
        BENCH.gives("head -n 00001 b", "1\n");
        BENCH.gives("head -n 99999 b", "1\n2\n");
        String[] bad = {"0", "00000", "000001", "100000", "1a", "a", "-1", "+1", "''", "'1 '", "1.", "1,2", "\u00b2"};
        for (String value : bad) {
            BENCH.refuses("head -n " + value + " b", 5, 8);
            BENCH.refuses("tail -n " + value + " b", 5, 8);
            BENCH.refuses("uniq -f " + value + " b", 5, 8);
            BENCH.refuses("join -1 " + value + " b b", 5, 8);
            BENCH.refuses("join -2 " + value + " b b", 5, 8);
            BENCH.refuses("join -a " + value + " b b", 5, 8);
        }
        BENCH.refuses("head -n0 b", 5, 5);
        BENCH.refuses("head -n", 5, 7);
        BENCH.refuses("head -n  ", 5, 9);
        BENCH.refuses("head -n | cat", 5, 8);
        BENCH.refuses("head -n>b", 5, 7);
        BENCH.refuses("head -n 0 -n 1 b", 5, 8);
        BENCH.refuses("head -n -n 1 b", 5, 8);
    }

    private static void lists() {
        String[] bad = {"0", "1-0", "0-1", "2-1", "-", "--", "1--2", ",", "1,", ",1", "1,,2", "1,0", "-0", "0-", "a",
            "1-a", "a-1", "1-2-3", "100000", "1-100000", "''", "'1 2'", "1;2"};
        for (String value : bad) {
            BENCH.refuses("cut -f " + value + " a", 5, 7);
            BENCH.refuses("cut -b " + value + " a", 5, 7);
        }
        BENCH.gives("cut -b 1,2-3,-4,5- a", "x\n");
        BENCH.gives("cut -b -99999,99999- a", "x\n");
        BENCH.gives("cut -b 2-2 a", "\n");
        BENCH.refuses("cut -f2-1 a", 5, 4);
        BENCH.refuses("cut -b", 5, 6);
    }

    private static void otherValues() {
        BENCH.refuses("cut -f 1 -d :: a", 5, 12);
        BENCH.refuses("cut -f 1 -d '' a", 5, 12);
        BENCH.refuses("cut -d", 5, 6);
        BENCH.refuses("sort -t ab a", 5, 8);
        BENCH.refuses("sort -t '' a", 5, 8);
        BENCH.refuses("join -t '' b b", 5, 8);
        String[] badKeys = {"0", "1,0", "0,1", "2,1", ",", "1,", ",1", "1,2,3", "1.1", "1-2", "''", "100000"};
        for (String value : badKeys) {
            BENCH.refuses("sort -k " + value + " a", 5, 8);
        }
        String[] badParts = {"1", "2", "00", "0.1", "3.1", "1.0", "1.", ".1", "1.1.1", "01.1", "1,1", "0,", ",0", "''",
            "1.100000", "0,1.1,,0", "'1.1 2.1'", "1-1"};
        for (String value : badParts) {
            BENCH.refuses("join -o " + value + " b b", 5, 8);
        }
        BENCH.refuses("join -a 3 b b", 5, 8);
        BENCH.refuses("join -v 3 b b", 5, 8);
        BENCH.refuses("join -v 0 b b", 5, 8);
        BENCH.refuses("join -e", 5, 7);
        BENCH.gives("join -e '' b b", "1\n2\n");
        String[] badBetween = {"''", "\\", "a\\", "\\a", "\\\\\\", "\\1", "\\ "};
        for (String value : badBetween) {
            BENCH.refuses("paste -d " + (value.equals("''") ? value : "'" + value + "'") + " a b", 5, 9);
        }
    }

    private static void sets() {
        BENCH.refuses("cat a | tr b-a x", 5, 11);
        BENCH.refuses("cat a | tr x b-a", 5, 13);
        BENCH.refuses("cat a | tr '' x", 5, 11);
        BENCH.refuses("cat a | tr x ''", 5, 13);
        BENCH.refuses("cat a | tr ab-a x", 5, 11);
        BENCH.refuses("cat a | tr x a--", 5, 13);
        BENCH.gives("cat a | tr x-x y", "y\n");
        BENCH.gives("cat a | tr a-x 'A-X'", "X\n");
    }

    private static void operands() {
        BENCH.refuses("cat -", 6, 4);
        BENCH.refuses("cat a -", 6, 6);
        BENCH.refuses("cat a | cat - -", 6, 14);
        BENCH.refuses("cat a | cat b - a -", 6, 18);
        BENCH.refuses("cat k", 6, 4);
        BENCH.refuses("cat A", 6, 4);
        BENCH.refuses("cat aa", 6, 4);
        BENCH.refuses("cat ''", 6, 4);
        BENCH.refuses("cat `", 6, 4);
        BENCH.refuses("head b a", 6, 7);
        BENCH.refuses("tac b a", 6, 6);
        BENCH.refuses("rev b a", 6, 6);
        BENCH.refuses("tail b a", 6, 7);
        BENCH.refuses("wc b a", 6, 5);
        BENCH.refuses("cut -b 1 b a", 6, 11);
        BENCH.refuses("uniq b a", 6, 7);
        BENCH.refuses("comm a b c", 6, 9);
        BENCH.refuses("join a b c", 6, 9);
        BENCH.gives("cat a" + " a".repeat(19), "x\n".repeat(20));
        BENCH.refuses("cat a" + " a".repeat(20), 6, 44);
        BENCH.gives("paste -d - a a a a a a a a", "x-x-x-x-x-x-x-x\n");
        BENCH.refuses("paste a a a a a a a a a", 6, 22);
        BENCH.gives("sort a" + " a".repeat(10), "x\n".repeat(11));
        BENCH.refuses("sort a" + " a".repeat(11), 6, 27);
        BENCH.refuses("cat a | tr a b c", 6, 15);
        BENCH.refuses("cat a | tr -d a b", 6, 16);
        BENCH.refuses("cat a | tr -s a b c", 6, 18);
        BENCH.refuses("cat a | tr -ds a b c", 6, 19);
    }

    private static void wholeTools() {
        String[] first = {"tac", "rev", "head", "head -n 1", "tail", "wc", "wc -l", "cut -b 1", "cut -f 1", "uniq", "sort",
            "cat", "paste", "comm", "comm a", "join", "join a", "tr a b", "tr a", "tr", "tr -d a", "paste -d x"};
        for (String command : first) {
            BENCH.refuses(command, 6, 0);
            BENCH.refuses("  " + command + " > k", 6, 2);
            BENCH.refuses(command + " | frob", 6, 0);
        }
        BENCH.refuses("cat a | cat", 6, 8);
        BENCH.refuses("cat a | paste -s", 6, 8);
        BENCH.refuses("cat a | comm -", 6, 8);
        BENCH.refuses("cat a | join -", 6, 8);
        BENCH.refuses("cat a | tr", 6, 8);
        BENCH.refuses("cat a | tr a", 6, 8);
        BENCH.refuses("cat a | tr -d", 6, 8);
        BENCH.refuses("cat a | tr -s", 6, 8);
        BENCH.refuses("cat a | tr -ds a", 6, 8);
        BENCH.refuses("cut a", 6, 0);
        BENCH.refuses("cut -s a", 6, 0);
        BENCH.refuses("cut -d : a", 6, 0);
        BENCH.refuses("cut -f 1 -b 1 a", 6, 0);
        BENCH.refuses("cut -b 1 -d : a", 6, 0);
        BENCH.refuses("cut -b 1 -s a", 6, 0);
    }

    private static void notThere() {
        BENCH.refuses("cat e", 7, 4);
        BENCH.refuses("cat a j b i", 7, 6);
        BENCH.refuses("comm e c", 7, 5);
        BENCH.refuses("comm c e", 7, 7);
        BENCH.refuses("cat a | sort - b 'e'", 7, 17);
        BENCH.refuses("cat a | tac e", 7, 12);
        BENCH.refuses("cat e | frob", 3, 8);
    }

    private static void notSorted() {
        Bench bench = new Bench().file('a', "a\nc\nb\na\n").file('b', "1\n2\n").file('c', "x 1\na 2\nb 2\nz 1\n")
            .file('d', "\u007f\n\u0080\n").file('e', "a\nab\na\n");
        bench.refuses("comm a b", 8, 0, 3, 1);
        bench.refuses("comm b a", 8, 0, 3, 2);
        bench.refuses("comm a a", 8, 0, 3, 1);
        bench.refuses("comm -123 b a", 8, 0, 3, 2);
        bench.refuses("comm b e", 8, 0, 3, 2);
        bench.refuses("cat b | comm - a", 8, 8, 3, 2);
        bench.refuses("cat a | comm - a > b", 8, 8, 3, 1);
        bench.refuses("join b a", 8, 0, 3, 2);
        bench.refuses("join c b", 8, 0, 2, 1);
        bench.refuses("join -2 2 b c", 8, 0, 4, 2);
        bench.refuses("join -1 2 c b", 8, 0, 4, 1);
        bench.gives("join -1 3 c b", "");
        bench.gives("comm d d", "\t\t\u007f\n\t\t\u0080\n");
        Bench many = new Bench().file('a', "b\n".repeat(299) + "a").file('b', "a\n".repeat(300)).file('c', "b\n".repeat(300));
        many.refuses("comm a b", 8, 0, 300, 1);
        many.refuses("join b a", 8, 0, 300, 2);
        many.refuses("comm b c", 9, 0);
    }

    private static void tooManyLines() {
        Bench bench = new Bench().file('a', "1\n".repeat(300)).file('b', "2\n").file('c', "k\n".repeat(20))
            .file('d', "k\n".repeat(15)).file('e', "k\n".repeat(16));
        bench.refuses("cat a b", 9, 0);
        bench.refuses("cat b | cat a -", 9, 8);
        bench.refuses("sort a b", 9, 0);
        bench.refuses("comm a b", 9, 0);
        bench.gives("comm -1 a b", "2\n");
        bench.gives("comm -2 a b | wc -l", "300\n");
        bench.gives("join c d | wc -l", "300\n");
        bench.refuses("join c e", 9, 0);
        bench.gives("join -v 1 c e", "");
        bench.refuses("join -a 1 -a 2 a b", 9, 0);
        bench.gives("join -a 1 a b | wc -l", "300\n");
        bench.gives("sort -u a a a a a a a a a a a", "1\n");
        bench.gives("paste a a b | wc", "300 601 1501\n");
        bench.refuses("cat a b | cat j", 9, 0);
    }

    private static void tooLongLines() {
        String y = "y".repeat(240);
        Bench bench = new Bench().file('a', y + "\n").file('b', y.substring(5) + "\n").file('c', "")
            .file('d', y.substring(120) + "\n" + y.substring(121) + "\n").file('e', y.substring(2) + "\n")
            .file('f', y.substring(4) + "\n" + y.substring(4) + "\n");
        bench.gives("cat a | tac | rev | sort | uniq | cut -b 1- | tr a b", y + "\n");
        bench.refuses("uniq -c a", 9, 0);
        bench.gives("uniq -cd a", "");
        bench.gives("uniq -c b", "   1 " + y.substring(5) + "\n");
        bench.refuses("uniq -c f", 9, 0);
        bench.gives("uniq -cu f", "");
        bench.refuses("paste a c", 9, 0);
        bench.gives("paste -d '\\0' a c", y + "\n");
        bench.gives("paste a", y + "\n");
        bench.gives("paste -s -d : d", y.substring(120) + ":" + y.substring(121) + "\n");
        bench.refuses("paste -d : d d", 9, 0);
        bench.gives("comm a c", y + "\n");
        bench.refuses("comm c a", 9, 0);
        bench.gives("comm -1 c a", y + "\n");
        bench.gives("comm e e", "\t\t" + y.substring(2) + "\n");
        bench.refuses("comm b b | comm - -", 6, 18);
        bench.refuses("comm a a", 9, 0);
        bench.gives("comm -3 a a", "");
        bench.refuses("join -o 0,0 a a", 9, 0);
        bench.gives("join -o 0 a a", y + "\n");
        bench.gives("join -o 0,1.2 -e z b b", y.substring(5) + " z\n");
        bench.refuses("join -o 0,1.2 -e zzzzz b b", 9, 0);
        bench.gives("join -o 1.2" + ",1.2".repeat(240) + " b b", " ".repeat(240) + "\n");
        bench.refuses("join -o 1.2" + ",1.2".repeat(241) + " b b", 9, 0);
        bench.gives("join -o 1.2" + ",1.2".repeat(1000) + " b c", "");
        Bench second = new Bench().file('a', "a\nb " + y.substring(2) + "\n").file('b', "a\nb\n").file('c', "\na\n");
        second.gives("join a b", "a\nb " + y.substring(2) + "\n");
        second.refuses("join -o 0,1.2,2.2 a b", 9, 0);
        second.refuses("join -1 2 -a 1 -o 1.2,0 a b", 9, 0);
        second.refuses("paste a b", 9, 0);
        second.refuses("paste b a", 9, 0);
        second.refuses("paste -s a", 9, 0);
        second.refuses("comm c a", 9, 0);
    }

    private static void firstFaultCounts() {
        BENCH.refuses("cat e | head -n 0", 5, 16);
        BENCH.refuses("cat k | frob", 6, 4);
        BENCH.refuses("cut -x -f 0 a", 4, 4);
        BENCH.refuses("cut -f 0 -x a", 5, 7);
        BENCH.refuses("cut -b 1 -f 1 k", 6, 14);
        BENCH.refuses("cut -b 1 -f 1 | frob", 6, 0);
        BENCH.refuses("comm c e", 7, 7);
        BENCH.refuses("comm c a | cat e", 8, 0, 2, 1);
        BENCH.refuses("cat e | comm c a", 7, 4);
        BENCH.refuses("cat a | comm - c | cat e", 8, 8, 2, 2);
    }

    private static void targets() {
        Session x = BENCH.make();
        Bench.runText(x, "cat b");
        Bench.same("into a new file", Bench.runText(x, "cat a b > j"), 3);
        Bench.same("the file", Bench.textOf(x, 9), "x\n1\n2\n");
        Bench.same("OUT has none", x.lines(10), 0);
        Bench.same("no fault", x.fault(), 0);
        Bench.same("into the file read", Bench.runText(x, "sort -r j>'j'"), 3);
        Bench.same("the file read", Bench.textOf(x, 9), "x\n2\n1\n");
        Bench.same("others stay", Bench.textOf(x, 1), "1\n2\n");
        Bench.same("none into a file", Bench.runText(x, "cat d > a"), 0);
        Bench.same("none in it", x.lines(0), 0);
        Bench.same("to OUT again", Bench.runText(x, "cat j | tac"), 3);
        Bench.same("OUT", Bench.textOf(x, 10), "1\n2\nx\n");
        x.drop(9);
        Bench.same("into a dropped one", Bench.runText(x, "cat b | tac > j"), 2);
        Bench.same("the dropped one", Bench.textOf(x, 9), "2\n1\n");
        Bench.same("refused: OUT and files stay", Bench.runText(x, "cat b > b k"), -11);
        Bench.same("the file stays", Bench.textOf(x, 1), "1\n2\n");
        Bench.same("a long way", Bench.runText(x, "cat c > a"), 2);
        Bench.same("c stays", Bench.textOf(x, 2), "b\na\n");
        Bench.same("a is its like", Bench.textOf(x, 0), "b\na\n");
    }

    private static void latestRun() {
        Session x = BENCH.make();
        Bench.runText(x, "comm c a");
        Bench.same("8", x.fault(), 8);
        Bench.same("8: line", x.line(), 2);
        Bench.same("8: side", x.side(), 1);
        x.drop(0);
        Bench.storeText(x, 0, "new");
        Bench.same("other calls leave it", x.fault() * 100 + x.line() * 10 + x.side(), 821);
        Bench.runText(x, "frob");
        Bench.same("3 behind 8", x.fault() * 100 + x.line() * 10 + x.side(), 300);
        Bench.runText(x, "comm a c");
        Bench.same("8 again", x.fault() * 100 + x.line() * 10 + x.side(), 822);
        Bench.runText(x, "cat a");
        Bench.same("none behind 8", x.fault() * 100 + x.line() * 10 + x.side(), 0);
    }

    private static void longCommands() {
        String tacs = "|tac".repeat(2249);
        BENCH.gives("cat b" + tacs.substring(0, tacs.length() - 4), "1\n2\n");
        BENCH.refuses("|".repeat(9000), 2, 0);
        BENCH.refuses("cat" + " a".repeat(4498), 6, 44);
        BENCH.gives("cut -b " + "1,".repeat(4400) + "1 b", "1\n2\n");
        BENCH.gives("cat b | tr " + "\0-\u00ff".repeat(2900) + " 1", "1\n1\n");
        BENCH.gives("cat b | tr 1 " + "\0-\u00ff".repeat(2900), "\0\n2\n");
        BENCH.gives("paste -d " + "-".repeat(8900) + " -s b", "1-2\n");
        BENCH.refuses("cat " + "'a".repeat(4497), 1, 4 + 2 * 4496);
    }
}

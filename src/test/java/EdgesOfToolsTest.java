/** Each sentence of "3 TOOLS" that names an edge, by itself. */
public final class EdgesOfToolsTest {
    private static final String TEN = "1\n2\n3\n4\n5\n6\n7\n8\n9\n10\n";
    /** Gives lines of 240 bytes if those of a have 8. */
    private static final String THIRTYFOLD = "paste -d \\0" + " a".repeat(8) + (" | paste -d \\0 -" + " a".repeat(7)).repeat(3)
        + " | paste -d \\0 a -";

    public static void main(String[] args) {
        cat();
        tac();
        rev();
        headAndTail();
        headAndTailUntold();
        wcCounts();
        wcWords();
        wcBytes();
        wcAsked();
        cutFieldsOfALine();
        cutInTheLinesOrder();
        cutWithoutTheByte();
        cutBytes();
        pasteRows();
        pasteBetween();
        pasteOverAgain();
        pasteBackslash();
        pasteBadBackslash();
        pasteSerial();
        pasteSerialWithoutLines();
        uniqSideBySide();
        uniqBehindPieces();
        uniqBlanksAtTheEnd();
        uniqOnlySome();
        uniqCounts();
        sortNoneTold();
        sortByTheLine();
        sortFromAField();
        sortToAField();
        sortMissingFields();
        sortPieces();
        sortNumbers();
        sortNumbersOfAnyLength();
        sortWithoutDigits();
        sortAlike();
        sortTheOtherWayRound();
        sortOnce();
        commColumns();
        commTabs();
        commNotShown();
        joinFields();
        joinMissingKey();
        joinEachWithEach();
        joinLonely();
        joinLonelyAlone();
        joinParts();
        joinPartsNotThere();
        trSets();
        trBadSets();
        trBecomes();
        trLastPlace();
        trShorterSet();
        trGoes();
        trSqueezes();
        trWhichSets();
        Bench.finish();
    }

    /** 300 lines, no two alike. */
    private static String numbered(String first) {
        StringBuilder lines = new StringBuilder();
        for (int i = 100; i < 400; i++) {
            lines.append(first).append(i).append('\n');
        }
        return lines.toString();
    }

    private static void cat() {
        Bench.sentence("cat A B .. (1 to 20 operands): the lines of each in turn.");
        Bench b = new Bench().file('a', "1\n\n").file('b', "").file('c', "2\n");
        b.gives("cat a", "1\n\n");
        b.gives("cat b", "");
        b.gives("cat b b b", "");
        b.gives("cat c a b c", "2\n1\n\n2\n");
        b.gives("cat" + " c".repeat(20), "2\n".repeat(20));
        b.refuses("cat" + " c".repeat(21), 6, 44);
        b.refuses("cat", 6, 0);
        b.gives("cat c | cat a - b" + " b".repeat(17), "1\n\n2\n");
    }

    private static void tac() {
        Bench.sentence("tac [A]: backwards.");
        Bench b = new Bench().file('a', "ab\n\ncd\n").file('b', "").file('c', "x\n");
        b.gives("tac a", "cd\n\nab\n");
        b.gives("tac b", "");
        b.gives("tac c", "x\n");
        b.gives("cat a | tac", "cd\n\nab\n");
        new Bench().file('a', "1\n".repeat(299) + "2\n").gives("tac a", "2\n" + "1\n".repeat(299));
    }

    private static void rev() {
        Bench.sentence("rev [A]: the bytes of each line backwards.");
        Bench b = new Bench().file('a', "ab\n\nc\nd e\t\n").file('b', "");
        b.gives("rev a", "ba\n\nc\n\te d\n");
        b.gives("rev b", "");
        b.gives("cat a | rev -", "ba\n\nc\n\te d\n");
        new Bench().file('a', "y".repeat(239) + "z\n").gives("rev a", "z" + "y".repeat(239) + "\n");
    }

    private static void headAndTail() {
        Bench.sentence("head [-n N] [A], tail [-n N] [A]: the first, the last N");
        Bench b = new Bench().file('a', "1\n2\n3\n").file('b', "").file('c', "1\n".repeat(299) + "2\n");
        b.gives("head -n 1 a", "1\n");
        b.gives("head -n 2 a", "1\n2\n");
        b.gives("head -n 3 a", "1\n2\n3\n");
        b.gives("head -n 4 a", "1\n2\n3\n");
        b.gives("tail -n 1 a", "3\n");
        b.gives("tail -n 2 a", "2\n3\n");
        b.gives("tail -n 3 a", "1\n2\n3\n");
        b.gives("tail -n 4 a", "1\n2\n3\n");
        b.gives("head -n 99999 a", "1\n2\n3\n");
        b.gives("tail -n 99999 a", "1\n2\n3\n");
        b.gives("head -n 1 b", "");
        b.gives("tail -n 1 b", "");
        b.gives("head -n 299 c", "1\n".repeat(299));
        b.gives("tail -n 299 c", "1\n".repeat(298) + "2\n");
        b.gives("head -n 300 c | tail -n 1", "2\n");
        b.refuses("head -n 0 a", 5, 8);
        b.refuses("tail -n 0 a", 5, 8);
    }

    private static void headAndTailUntold() {
        Bench.sentence("the first, the last N (10 if not told)");
        Bench b = new Bench().file('a', TEN).file('b', TEN + "11\n").file('c', "1\n2\n3\n4\n5\n6\n7\n8\n9\n");
        b.gives("head a", TEN);
        b.gives("tail a", TEN);
        b.gives("head b", TEN);
        b.gives("tail b", TEN.substring(2) + "11\n");
        b.gives("head c", "1\n2\n3\n4\n5\n6\n7\n8\n9\n");
        b.gives("tail c", "1\n2\n3\n4\n5\n6\n7\n8\n9\n");
    }

    private static void wcCounts() {
        Bench.sentence("wc [-l] [-w] [-c] [A]: one line: how many lines");
        Bench b = new Bench().file('a', "").file('b', "\n").file('c', "x\n".repeat(300));
        b.gives("wc -l a", "0\n");
        b.gives("wc -l b", "1\n");
        b.gives("wc -l c", "300\n");
        b.gives("head -n 9 c | wc -l", "9\n");
        b.gives("head -n 10 c | wc -l", "10\n");
        b.gives("head -n 99 c | wc -l", "99\n");
        b.gives("head -n 100 c | wc -l", "100\n");
        b.gives("wc a | wc -l", "1\n");
    }

    private static void wcWords() {
        Bench.sentence("words (rows of bytes other than 32 and 9)");
        String[] lines = {"", " ", "\t", " \t ", "a", " a", "a ", "\ta\t", "a b", "a  \t b", "ab\tcd ef", "\0", "\r", "\u000b",
            "\u00a0 \u00ff", "' |"};
        int[] words = {0, 0, 0, 0, 1, 1, 1, 1, 2, 2, 3, 1, 1, 1, 2, 2};
        for (int i = 0; i < lines.length; i++) {
            new Bench().file('a', lines[i] + "\n").gives("wc -w a", words[i] + "\n");
        }
        new Bench().file('a', "a\nb c\n\n").gives("wc -w a", "3\n");
        new Bench().file('a', "").gives("wc -w a", "0\n");
        new Bench().file('a', "a ".repeat(120)).gives("wc -w a", "120\n");
        new Bench().file('a', ("a ".repeat(4) + "\n").repeat(300)).gives(THIRTYFOLD + " | wc -w", "36000\n");
    }

    private static void wcBytes() {
        Bench.sentence("bytes (each line one more)");
        new Bench().file('a', "").gives("wc -c a", "0\n");
        new Bench().file('a', "\n").gives("wc -c a", "1\n");
        new Bench().file('a', "abc").gives("wc -c a", "4\n");
        new Bench().file('a', "abc\n\n").gives("wc -c a", "5\n");
        new Bench().file('a', ("y".repeat(29) + "\n").repeat(300)).gives("wc -c a", "9000\n");
        Bench full = new Bench().file('a', ("y".repeat(8) + "\n").repeat(300));
        full.gives(THIRTYFOLD + " | wc -c", "72300\n");
        full.gives(THIRTYFOLD + " | cut -b 3- | wc -c", "71700\n");
        full.refuses(THIRTYFOLD + " | paste - a", 9, THIRTYFOLD.length() + 3);
    }

    private static void wcAsked() {
        Bench.sentence("of these those asked (all if none), in this order, a 32 between");
        Bench b = new Bench().file('a', "a b\n\n");
        b.gives("wc a", "2 2 5\n");
        b.gives("wc -l a", "2\n");
        b.gives("wc -w a", "2\n");
        b.gives("wc -c a", "5\n");
        b.gives("wc -l -w a", "2 2\n");
        b.gives("wc -l -c a", "2 5\n");
        b.gives("wc -c -l a", "2 5\n");
        b.gives("wc -c -w a", "2 5\n");
        b.gives("wc -cwl a", "2 2 5\n");
        b.gives("wc -c -c a", "5\n");
    }

    private static void cutFieldsOfALine() {
        Bench.sentence("the FIELDS of a line are what stands between bytes C (9 if not told), numbered from 1 on");
        Bench b = new Bench().file('a', "1:2:3\n:\n:x\nx:\n::\n").file('b', "p\tq r\ts\n\t\n").file('c', ":".repeat(240) + "\n");
        b.gives("cut -d : -f 1 a", "1\n\n\nx\n\n");
        b.gives("cut -d : -f 2 a", "2\n\nx\n\n\n");
        b.gives("cut -d : -f 3 a", "3\n\n\n\n\n");
        b.gives("cut -d : -f 4 a", "\n\n\n\n\n");
        b.gives("cut -f 1 b", "p\n\n");
        b.gives("cut -f 2 b", "q r\n\n");
        b.gives("cut -f 3 b", "s\n\n");
        b.gives("cut -d : -f 240- c", ":\n");
        b.gives("cut -d : -f 241 c", "\n");
        b.gives("cut -d : -f 242- c", "\n");
        b.gives("cut -d : -f 1- c", ":".repeat(240) + "\n");
        b.gives("cut -d : -f -99999 c", ":".repeat(240) + "\n");
    }

    private static void cutInTheLinesOrder() {
        Bench.sentence("those that the LIST tells, in the line's order, C between them");
        Bench b = new Bench().file('a', "1:2:3:4\n");
        b.gives("cut -d : -f 3,1 a", "1:3\n");
        b.gives("cut -d : -f 4,3-4,3 a", "3:4\n");
        b.gives("cut -d : -f 2-3,1,1 a", "1:2:3\n");
        b.gives("cut -d : -f 4-,-1 a", "1:4\n");
        b.gives("cut -d : -f 1,9 a", "1\n");
        b.gives("cut -d : -f 5- a", "\n");
        b.gives("cut -b 6,2,4 a", ":::\n");
        new Bench().file('a', "::x\n").gives("cut -d : -f 1,2 a", ":\n");
    }

    private static void cutWithoutTheByte() {
        Bench.sentence("A line without C: all of it; with s: it goes.");
        Bench b = new Bench().file('a', "none\n\na:b\n \n").file('b', "none\n");
        b.gives("cut -d : -f 2 a", "none\n\nb\n \n");
        b.gives("cut -d : -f 99999 a", "none\n\n\n \n");
        b.gives("cut -d : -s -f 2 a", "b\n");
        b.gives("cut -d : -s -f 3 a", "\n");
        b.gives("cut -d : -s -f 1 b", "");
        b.gives("cut -f 1 a", "none\n\na:b\n \n");
        b.gives("cut -s -f 1 a", "");
    }

    private static void cutBytes() {
        Bench.sentence("cut -b LIST [A]: those bytes of each line.");
        Bench b = new Bench().file('a', "abc\n\nx\n").file('b', "");
        b.gives("cut -b 1 a", "a\n\nx\n");
        b.gives("cut -b 3 a", "c\n\n\n");
        b.gives("cut -b 4 a", "\n\n\n");
        b.gives("cut -b 3,1 a", "ac\n\nx\n");
        b.gives("cut -b 2- a", "bc\n\n\n");
        b.gives("cut -b 1 b", "");
        new Bench().file('a', "y".repeat(238) + "zw\n").gives("cut -b 239 a", "z\n");
        new Bench().file('a', "y".repeat(238) + "zw\n").gives("cut -b 240 a", "w\n");
        new Bench().file('a', "y".repeat(238) + "zw\n").gives("cut -b 241- a", "\n");
    }

    private static void pasteRows() {
        Bench.sentence("row i is line i of each, as long as one has a line i (of others nothing)");
        Bench b = new Bench().file('a', "1\n2\n3\n").file('b', "x\n").file('c', "").file('d', "\n\n\n\n").file('e', "1\n".repeat(300));
        b.gives("paste a b", "1\tx\n2\t\n3\t\n");
        b.gives("paste b a", "x\t1\n\t2\n\t3\n");
        b.gives("paste c a c", "\t1\t\n\t2\t\n\t3\t\n");
        b.gives("paste c", "");
        b.gives("paste c c c", "");
        b.gives("paste d b", "\tx\n\t\n\t\n\t\n");
        b.gives("paste a", "1\n2\n3\n");
        b.gives("paste b e | tail -n 1", "\t1\n");
        b.gives("paste b e | wc -l", "300\n");
        b.gives("cat a | paste b - b", "x\t1\tx\n\t2\t\n\t3\t\n");
    }

    private static void pasteBetween() {
        Bench.sentence("with CS between: its first byte, its second, .., over again in each row (9 if not told; CS has a byte at least");
        Bench b = new Bench().file('a', "1\n2\n");
        b.gives("paste a a a", "1\t1\t1\n2\t2\t2\n");
        b.gives("paste -d :, a a a", "1:1,1\n2:2,2\n");
        b.gives("paste -d :,- a a a", "1:1,1\n2:2,2\n");
        b.gives("paste -d : a", "1\n2\n");
        b.gives("paste -d abcdefg a a a a a a a a | head -n 1", "1a1b1c1d1e1f1g1\n");
        b.refuses("paste -d '' a a", 5, 9);
        b.refuses("paste -d '' a", 5, 9);
        b.refuses("paste -s -d '' a", 5, 12);
        b.gives("paste -d \u00ff a a", "1\u00ff1\n2\u00ff2\n");
        b.gives("paste -d \0 a a", "1\0" + "1\n2\0" + "2\n");
    }

    private static void pasteOverAgain() {
        Bench.sentence("over again in each row");
        Bench b = new Bench().file('a', "1\n2\n3\n");
        b.gives("paste -d :, a a", "1:1\n2:2\n3:3\n");
        b.gives("paste -d :, a a a", "1:1,1\n2:2,2\n3:3,3\n");
        b.gives("paste -d : a a a", "1:1:1\n2:2:2\n3:3:3\n");
        b.gives("paste -s -d :,- a a", "1:2,3\n1:2,3\n");
        b.gives("paste -s -d : a", "1:2:3\n");
        new Bench().file('a', "1\n2\n3\n4\n5\n").gives("paste -s -d ab a a", "1a2b3a4b5\n1a2b3a4b5\n");
    }

    private static void pasteBackslash() {
        Bench.sentence("\\ and 0, n, t, \\ in it stand for nothing, 32, 9, \\");
        Bench b = new Bench().file('a', "1\n");
        b.gives("paste -d \\0 a a", "11\n");
        b.gives("paste -d \\n a a", "1 1\n");
        b.gives("paste -d \\t a a", "1\t1\n");
        b.gives("paste -d \\\\ a a", "1\\1\n");
        b.gives("paste -d '\\\\' a a", "1\\1\n");
        b.gives("paste -d \\0x a a a a", "11x11\n");
        b.gives("paste -d x\\0 a a a a", "1x11x1\n");
        b.gives("paste -d \\\\0 a a a", "1\\101\n");
        b.gives("paste -d \\\\\\0 a a a a", "1\\11\\1\n");
        b.gives("paste -d 0\\0t\\tn\\n a a a a a a a", "1011t1\t1n1 1\n");
    }

    private static void pasteBadBackslash() {
        Bench.sentence("with another byte behind \\, or none: 5");
        Bench b = new Bench().file('a', "1\n");
        for (int i = 0; i < 256; i++) {
            boolean good = i == '0' || i == 'n' || i == 't' || i == '\\';
            if (!good && i != '\'') {
                b.refuses("paste -d '\\" + (char) i + "' a a", 5, 9);
            }
        }
        b.refuses("paste -d \\ a a", 5, 9);
        b.refuses("paste -d x\\ a a", 5, 9);
        b.refuses("paste -d \\\\\\ a a", 5, 9);
        b.refuses("paste -d \\0\\x a a", 5, 9);
        b.refuses("paste -s -d\\x a", 5, 9);
        b.refuses("paste -d \\0\\", 5, 9);
    }

    private static void pasteSerial() {
        Bench.sentence("With s a row for each operand: its lines, CS between likewise");
        Bench b = new Bench().file('a', "1\n2\n3\n").file('b', "x\n").file('c', "\n").file('d', "\n\n");
        b.gives("paste -s a", "1\t2\t3\n");
        b.gives("paste -s a b", "1\t2\t3\nx\n");
        b.gives("paste -s b a b", "x\n1\t2\t3\nx\n");
        b.gives("paste -s c", "\n");
        b.gives("paste -s d", "\t\n");
        b.gives("paste -s -d \\0 a", "123\n");
        b.gives("paste -s" + " b".repeat(8), "x\n".repeat(8));
        b.gives("cat a | paste -s b -", "x\n1\t2\t3\n");
        new Bench().file('a', "\n".repeat(241)).gives("paste -s a", "\t".repeat(240) + "\n");
        new Bench().file('a', "\n".repeat(242)).refuses("paste -s a", 9, 0);
        new Bench().file('a', "\n".repeat(300)).gives("paste -s -d " + "\\0".repeat(298) + "x a", "x\n");
        new Bench().file('a', "\n".repeat(300)).gives("paste -s -d " + "\\0".repeat(299) + "x a", "\n");
    }

    private static void pasteSerialWithoutLines() {
        Bench.sentence("(without lines: an empty row)");
        Bench b = new Bench().file('a', "").file('b', "x\ny\n");
        b.gives("paste -s a", "\n");
        b.gives("paste -s a a a", "\n\n\n");
        b.gives("paste -s a b a", "\nx\ty\n\n");
        b.gives("cat a | paste -s -", "\n");
    }

    private static void uniqSideBySide() {
        Bench.sentence("lines side by side that are alike make one, the first of them");
        Bench b = new Bench().file('a', "a\na\nb\na\n").file('b', "").file('c', "x\n").file('d', "\n\n\n").file('e', "a\nA\na \na\n");
        b.gives("uniq a", "a\nb\na\n");
        b.gives("uniq b", "");
        b.gives("uniq c", "x\n");
        b.gives("uniq d", "\n");
        b.gives("uniq e", "a\nA\na \na\n");
        b.gives("cat a | uniq", "a\nb\na\n");
        new Bench().file('a', "x\n".repeat(299) + "y\n").gives("uniq a", "x\ny\n");
        new Bench().file('a', "y".repeat(239) + "a\n" + "y".repeat(239) + "b\n").gives("uniq a | wc -l", "2\n");
        new Bench().file('a', "1 k\n2 k\n3 k\n4 l\n").gives("uniq -f 1 a", "1 k\n4 l\n");
    }

    private static void uniqBehindPieces() {
        Bench.sentence("(f: alike behind N pieces: each the bytes 32 and 9 that are there, perhaps none, then all up to the next 32 or 9");
        Bench b = new Bench().file('a', "1 k\n2 k\n").file('b', "1 k\n2  k\n").file('c', "1\tk\n2 k\n").file('d', " 1 k\n2 k\n\t \t3 k\n")
            .file('e', "1 2 k\n3  4 k\n5\t6 k\n").file('f', "1k\n2k\n").file('g', "1 k \n2 k\n");
        b.gives("uniq -f 1 a", "1 k\n");
        b.gives("uniq -f 1 b", "1 k\n2  k\n");
        b.gives("uniq -f 1 c", "1\tk\n2 k\n");
        b.gives("uniq -f 1 d", " 1 k\n");
        b.gives("uniq -f 2 e", "1 2 k\n");
        b.gives("uniq -f 1 e", "1 2 k\n3  4 k\n5\t6 k\n");
        b.gives("uniq -f 1 f", "1k\n");
        b.gives("uniq -f 1 g", "1 k \n2 k\n");
        b.gives("uniq -f 2 b", "1 k\n");
        b.gives("uniq -f 99999 e", "1 2 k\n");
        b.gives("uniq a", "1 k\n2 k\n");
        new Bench().file('a', "\nx\n\n").gives("uniq -f 1 a", "\n");
        new Bench().file('a', "a ".repeat(119) + "b\n" + "a ".repeat(118) + "c b\n").gives("uniq -f 119 a | wc -l", "1\n");
        new Bench().file('a', "a ".repeat(119) + "b\n" + "a ".repeat(119) + "c\n").gives("uniq -f 119 a | wc -l", "2\n");
    }

    private static void uniqBlanksAtTheEnd() {
        Bench.sentence("at the end of a line 32s and 9s alone are one, too");
        Bench b = new Bench().file('a', "1 \n2\n").file('b', "  \n\n").file('c', "1 \t \n2 \n3\n");
        b.gives("uniq -f 1 a", "1 \n2\n");
        b.gives("uniq -f 2 a", "1 \n");
        b.gives("uniq b", "  \n\n");
        b.gives("uniq -f 1 b", "  \n");
        b.gives("uniq -f 1 c", "1 \t \n2 \n3\n");
        b.gives("uniq -f 2 c", "1 \t \n");
    }

    private static void uniqOnlySome() {
        Bench.sentence("d: those of one line go; u: those of more go.");
        Bench b = new Bench().file('a', "1\n2\n2\n3\n3\n3\n4\n").file('b', "1\n").file('c', "1\n1\n").file('d', "");
        b.gives("uniq -d a", "2\n3\n");
        b.gives("uniq -u a", "1\n4\n");
        b.gives("uniq -du a", "");
        b.gives("uniq -d b", "");
        b.gives("uniq -u b", "1\n");
        b.gives("uniq -d c", "1\n");
        b.gives("uniq -u c", "");
        b.gives("uniq -d d", "");
        b.gives("uniq -u d", "");
    }

    private static void uniqCounts() {
        Bench.sentence("c: before each how many they were, with 32s before to 4 bytes at least, and a 32.");
        int[] counts = {1, 9, 10, 99, 100, 299, 300};
        for (int n : counts) {
            String four = ("   " + n).substring(("   " + n).length() - 4);
            new Bench().file('a', "x\n".repeat(n)).gives("uniq -c a", four + " x\n");
        }
        Bench b = new Bench().file('a', "1\n2\n2\n\n");
        b.gives("uniq -c a", "   1 1\n   2 2\n   1 \n");
        b.gives("uniq -cd a", "   2 2\n");
        b.gives("uniq -cu a", "   1 1\n   1 \n");
        b.gives("uniq -cdu a", "");
        b.gives("uniq -c -f 1 a", "   4 1\n");
    }

    private static void sortNoneTold() {
        Bench.sentence("A B .. (up to 11, or none: - ): the lines of all");
        Bench b = new Bench().file('a', "2\n1\n").file('b', "").file('c', "0\n3\n");
        b.gives("cat a | sort", "1\n2\n");
        b.gives("cat a | sort -", "1\n2\n");
        b.gives("cat a | sort c", "0\n3\n");
        b.gives("cat a | sort c - b", "0\n1\n2\n3\n");
        b.gives("sort b", "");
        b.gives("sort c" + " b".repeat(9) + " a", "0\n1\n2\n3\n");
        b.refuses("sort", 6, 0);
        b.refuses("sort a" + " b".repeat(11), 6, 27);
        new Bench().file('a', "b\na\n".repeat(150)).gives("sort a", "a\n".repeat(150) + "b\n".repeat(150));
    }

    private static void sortByTheLine() {
        Bench.sentence("by their KEYS: the line");
        Bench b = new Bench().file('a', "b\n\na b\na\nB\n10\n9\n");
        b.gives("sort a", "\n10\n9\nB\na\na b\nb\n");
        b.gives("sort -t : a", "\n10\n9\nB\na\na b\nb\n");
        new Bench().file('a', "y".repeat(239) + "b\n" + "y".repeat(239) + "a\n").gives("sort a | cut -b 240", "a\nb\n");
    }

    private static void sortFromAField() {
        Bench.sentence("or, by k, from its field N on to the end");
        Bench b = new Bench().file('a', "1:b:z\n2:b:y\n3:a:x\n");
        b.gives("sort -t : -k 2 a", "3:a:x\n2:b:y\n1:b:z\n");
        b.gives("sort -t : -k 3 a", "3:a:x\n2:b:y\n1:b:z\n");
        b.gives("sort -t : -k 1 a", "1:b:z\n2:b:y\n3:a:x\n");
        new Bench().file('a', "x::b\ny:a\n").gives("sort -t : -k 2 a", "x::b\ny:a\n");
        new Bench().file('a', ":".repeat(239) + "b\n" + ":".repeat(239) + "a\n").gives("sort -t : -k 240 a | cut -b 240", "a\nb\n");
    }

    private static void sortToAField() {
        Bench.sentence("or to the end of the field of the second N (not less): fields by t stand between bytes C");
        Bench b = new Bench().file('a', "b:1:9\na:1:8\nc:0:9\n");
        b.gives("sort -t : -k 2,2 a", "c:0:9\na:1:8\nb:1:9\n");
        b.gives("sort -t : -k 2,2 -u a", "c:0:9\nb:1:9\n");
        b.gives("sort -t : -k 2,3 -u a", "c:0:9\na:1:8\nb:1:9\n");
        b.gives("sort -t : -k 1,2 -r a", "c:0:9\nb:1:9\na:1:8\n");
        b.gives("sort -t : -k 3,3 -u a", "a:1:8\nb:1:9\n");
        b.refuses("sort -t : -k 2,1 a", 5, 13);
        b.refuses("sort -t : -k 3,2 a", 5, 13);
        new Bench().file('a', "ab:1\na:2\n").gives("sort -t : -k 1,1 a", "a:2\nab:1\n");
        new Bench().file('a', "a!:1\na:2\n").gives("sort -t : -k 1,1 a", "a:2\na!:1\n");
        new Bench().file('a', "a!:1\na:2\n").gives("sort -t : -k 1 a", "a!:1\na:2\n");
    }

    private static void sortMissingFields() {
        Bench.sentence("(a missing one: nothing; of a second that is missing: to the end)");
        Bench b = new Bench().file('a', "b:x\nd\na\nc:\n").file('b', "k:b\nk:a\nk\n").file('c', "2:b:x\n1:b\n3:a:y\n");
        b.gives("sort -t : -k 2 a", "a\nc:\nd\nb:x\n");
        b.gives("sort -t : -k 2 -u a", "d\nb:x\n");
        b.gives("sort -t : -k 3 a", "a\nb:x\nc:\nd\n");
        b.gives("sort -t : -k 99999 -u a", "b:x\n");
        b.gives("sort -t : -k 2,99999 b", "k\nk:a\nk:b\n");
        b.gives("sort -t : -k 2,3 c", "3:a:y\n1:b\n2:b:x\n");
        b.gives("sort -t : -k 2,9 -u c", "3:a:y\n1:b\n2:b:x\n");
        b.gives("sort -t : -k 4,9 -u c", "2:b:x\n");
        b.gives("sort -n -t : -k 2 a", "a\nb:x\nc:\nd\n");
        new Bench().file('a', "b:-1\na\nc:1\n").gives("sort -n -t : -k 2 a", "b:-1\na\nc:1\n");
    }

    private static void sortPieces() {
        Bench.sentence("otherwise are pieces as of uniq");
        Bench b = new Bench().file('a', "x b\ny  a\nz\tc\n").file('b', " b 1\na 1\n").file('c', "k \nk\nk  \n").file('d', "a:2 1\nb:1 2\n");
        b.gives("sort -k 2 a", "z\tc\ny  a\nx b\n");
        b.gives("sort -k 1 b", " b 1\na 1\n");
        b.gives("sort -k 2 b", " b 1\na 1\n");
        b.gives("sort -k 2 -u b", " b 1\n");
        b.gives("sort -k 2 -u c", "k\nk \nk  \n");
        b.gives("sort -k 3 -u c", "k \n");
        b.gives("sort -k 2 -r d", "b:1 2\na:2 1\n");
        b.gives("sort -k 2,2 -t : d", "b:1 2\na:2 1\n");
        new Bench().file('a', "x 1 9\ny 1 8\n").gives("sort -k 2,2 -u a", "x 1 9\n");
        new Bench().file('a', "x 1 9\ny 1 8\n").gives("sort -k 2,3 -u a", "y 1 8\nx 1 9\n");
        new Bench().file('a', " \n  \n\n").gives("sort -k 1 -r a", "  \n \n\n");
    }

    private static void sortNumbers() {
        Bench.sentence("n: as numbers: 32s and 9s, - or not, digits, and perhaps . and digits, with which it begins");
        Bench b = new Bench().file('a', "10\n9\n-1\n-10\n0\n").file('b', "1.5\n1.25\n1\n1.05\n1.500\n").file('c', "-1.5\n-1.25\n-1\n-2\n");
        b.gives("sort -n a", "-10\n-1\n0\n9\n10\n");
        b.gives("sort -n -u b", "1\n1.05\n1.25\n1.5\n");
        b.gives("sort -n c", "-2\n-1.5\n-1.25\n-1\n");
        new Bench().file('a', " \t 2\n\t1\n 3\n").gives("sort -n a", "\t1\n \t 2\n 3\n");
        new Bench().file('a', "2x9\n10x1\n1.5.9\n").gives("sort -n a", "1.5.9\n2x9\n10x1\n");
        new Bench().file('a', "1\n01\n1.\n1.0\n1.00\n1x\n 1\n1.x\n").gives("sort -n -u a", "1\n");
        new Bench().file('a', "0\n-0\n0.0\n-0.00\n00\n000.000\n").gives("sort -n -u a", "0\n");
        new Bench().file('a', "a:3\nb:20\nc:1\n").gives("sort -n -t : -k 2 a", "c:1\na:3\nb:20\n");
        new Bench().file('a', "a 3\nb 20\nc   1\n").gives("sort -n -k 2 a", "c   1\na 3\nb 20\n");
        new Bench().file('a', "1:5\n1:-4\n").gives("sort -n -t : -k 1,1 -u a", "1:5\n");
        new Bench().file('a', "x.1.5\ny.1.3\n").gives("sort -n -t . -k 2,2 -u a", "x.1.5\n");
        new Bench().file('a', "x.1.5\ny.1.3\n").gives("sort -n -t . -k 2 -u a", "y.1.3\nx.1.5\n");
        new Bench().file('a', "1,000\n2\n1\n").gives("sort -n -u a", "1,000\n2\n");
        new Bench().file('a', "1:5\n2\n1/5\n1.5:\n1.5/\n").gives("sort -n -u a", "1:5\n1.5:\n2\n");
    }

    private static void sortNumbersOfAnyLength() {
        Bench.sentence("(any length");
        String nines = "9".repeat(239);
        String zeros = "0".repeat(236);
        new Bench().file('a', "1" + "0".repeat(239) + "\n" + nines + "\n").gives("sort -n a", nines + "\n1" + "0".repeat(239) + "\n");
        new Bench().file('a', nines + "8\n" + nines + "7\n").gives("sort -n a | cut -b 240", "7\n8\n");
        new Bench().file('a', "-" + nines + "\n-" + nines.substring(1) + "\n").gives("sort -n a | wc -c", "481\n");
        new Bench().file('a', "-" + nines.substring(1) + "\n-" + nines + "\n")
            .gives("sort -n a", "-" + nines + "\n-" + nines.substring(1) + "\n");
        new Bench().file('a', "0." + zeros + "1\n0." + zeros + "\n-0." + zeros + "1\n").gives("sort -n a | cut -b 1-2", "-0\n0.\n0.\n");
        new Bench().file('a', "0." + zeros + "2\n0." + zeros + "1\n").gives("sort -n a | cut -b 239", "1\n2\n");
        new Bench().file('a', zeros + "2\n" + "1\n" + zeros + "1\n").gives("sort -n -u a", "1\n" + zeros + "2\n");
        new Bench().file('a', "4294967297\n1\n2147483648\n-2147483649\n18446744073709551617\n")
            .gives("sort -n a", "-2147483649\n1\n2147483648\n4294967297\n18446744073709551617\n");
        new Bench().file('a', "1." + zeros + "\n1\n").gives("sort -n -u a", "1." + zeros + "\n");
    }

    private static void sortWithoutDigits() {
        Bench.sentence("without digits behind the first part 0");
        new Bench().file('a', "x\n-\n\n \n+5\n- 5\n--5\n0\n").gives("sort -n -u a", "x\n");
        new Bench().file('a', "1\nx\n-1\n").gives("sort -n a", "-1\nx\n1\n");
        new Bench().file('a', "1\n\n-1\n").gives("sort -n a", "-1\n\n1\n");
        new Bench().file('a', "0.1\n-\n-0.1\n").gives("sort -n a", "-0.1\n-\n0.1\n");
        new Bench().file('a', "\r5\nx\n").gives("sort -n -u a", "\r5\n");
    }

    private static void sortAlike() {
        Bench.sentence("Those alike: by the lines as bytes, and as they came.");
        Bench b = new Bench().file('a', "c:1\na:1\nb:0\n").file('b', "1.0\n1\n01\n");
        b.gives("sort -t : -k 2 a", "b:0\na:1\nc:1\n");
        b.gives("sort -n b", "01\n1\n1.0\n");
        b.gives("sort -k 9 a", "a:1\nb:0\nc:1\n");
        new Bench().file('a', "x\u00ff\nx\u007f\n").gives("sort -k 2 a", "x\u007f\nx\u00ff\n");
        new Bench().file('a', "b\na\n").file('b', "b\na\n").gives("sort -k 2 a b", "a\na\nb\nb\n");
    }

    private static void sortTheOtherWayRound() {
        Bench.sentence("r: the other way round, by keys and by lines.");
        Bench b = new Bench().file('a', "c:1\na:1\nb:2\n").file('b', "1.0\n1\n-5\n01\n20\n").file('c', "").file('d', "ab\na\n\n");
        b.gives("sort -r -t : -k 2 a", "b:2\nc:1\na:1\n");
        b.gives("sort -r -n b", "20\n1.0\n1\n01\n-5\n");
        b.gives("sort -r c", "");
        b.gives("sort -r d", "ab\na\n\n");
        b.gives("sort -r -k 9 a", "c:1\nb:2\na:1\n");
    }

    private static void sortOnce() {
        Bench.sentence("u: of those with alike keys (n: numbers) the first that came stays alone.");
        Bench b = new Bench().file('a', "c:1\na:1\nb:0\nd:1\n").file('b', "a:1\nc:1\n").file('c', "1.0\n1\n2\n01\n").file('d', "x\nx\nx\n");
        b.gives("sort -u -t : -k 2 a", "b:0\nc:1\n");
        b.gives("sort -u -t : -k 2 b a", "b:0\na:1\n");
        b.gives("sort -u -r -t : -k 2 a", "c:1\nb:0\n");
        b.gives("sort -u -n c", "1.0\n2\n");
        b.gives("sort -u -n -r c", "2\n1.0\n");
        b.gives("sort -u c", "01\n1\n1.0\n2\n");
        b.gives("sort -u d", "x\n");
        b.gives("sort -u a b", "a:1\nb:0\nc:1\nd:1\n");
        b.gives("cat b | sort -u -t : -k 2 a -", "b:0\nc:1\n");
        b.gives("cat b | sort -u -t : -k 2 - a", "b:0\na:1\n");
        new Bench().file('a', "").gives("sort -u a", "");
    }

    private static void commColumns() {
        Bench.sentence("lines of both, the lesser first, one of A and one of B that are alike together: in A alone column 1, "
            + "in B alone 2, together 3");
        Bench b = new Bench().file('a', "a\nc\nc\nd\n").file('b', "b\nc\nd\nd\n").file('c', "").file('d', "c\nc\nc\n").file('e', "\n\n");
        b.gives("comm a b", "a\n\tb\n\t\tc\nc\n\t\td\n\td\n");
        b.gives("comm b a", "\ta\nb\n\t\tc\n\tc\n\t\td\nd\n");
        b.gives("comm a c", "a\nc\nc\nd\n");
        b.gives("comm c a", "\ta\n\tc\n\tc\n\td\n");
        b.gives("comm c c", "");
        b.gives("comm a d", "a\n\t\tc\n\t\tc\n\tc\nd\n");
        b.gives("comm e e", "\t\t\n\t\t\n");
        b.gives("comm e a", "\n\n\ta\n\tc\n\tc\n\td\n");
        Bench full = new Bench().file('a', "1\n".repeat(300)).file('b', "2\n".repeat(300));
        full.gives("comm -1 a b", "2\n".repeat(300));
        full.gives("comm -2 b a", "2\n".repeat(300));
        full.gives("comm -12 a b", "");
    }

    private static void commTabs() {
        Bench.sentence("A line of column 2 has a 9 before, if 1 is shown; one of 3 a 9 for each of 1, 2 that is shown.");
        Bench b = new Bench().file('a', "a\nc\n").file('b', "b\nc\n");
        b.gives("comm a b", "a\n\tb\n\t\tc\n");
        b.gives("comm -1 a b", "b\n\tc\n");
        b.gives("comm -2 a b", "a\n\tc\n");
        b.gives("comm -3 a b", "a\n\tb\n");
        b.gives("comm -12 a b", "c\n");
        b.gives("comm -13 a b", "b\n");
        b.gives("comm -23 a b", "a\n");
    }

    private static void commNotShown() {
        Bench.sentence("1, 2, 3: that column is not shown.");
        Bench b = new Bench().file('a', "a\nc\n").file('b', "b\nc\n");
        b.gives("comm -123 a b", "");
        b.gives("comm -3 -2 -1 a b", "");
        b.gives("comm -1 -1 a b", "b\n\tc\n");
        b.gives("comm -12 a a", "a\nc\n");
        b.gives("comm -3 a a", "");
        b.gives("comm -1 a a", "\ta\n\tc\n");
    }

    private static void joinFields() {
        Bench.sentence("fields by t, otherwise rows of bytes other than 32 and 9");
        Bench b = new Bench().file('a', "k 1\n").file('b', "  k \t 2\t \n").file('c', "k:1 2:\n").file('d', "k::3\n").file('e', "k\t1\n");
        b.gives("join a b", "k 1 2\n");
        b.gives("join b a", "k 2 1\n");
        b.gives("join e b", "k 1 2\n");
        b.gives("join -t : c d", "k:1 2:::3\n");
        b.gives("join c d", "");
        b.gives("join -t ' ' a a", "k 1 1\n");
        b.gives("join -t ' ' -a 1 b a", "  k \t 2\t \n");
        b.gives("join -t '\t' e e", "k\t1\t1\n");
        b.gives("join -t : a a", "k 1\n");
        new Bench().file('a', "k" + ":".repeat(239) + "\n").file('b', "k\n").gives("join -t : a b", "k" + ":".repeat(239) + "\n");
        new Bench().file('a', "k" + " x".repeat(119) + "\n").file('b', "k\n").gives("join a b", "k" + " x".repeat(119) + "\n");
    }

    private static void joinMissingKey() {
        Bench.sentence("THE KEY of a line of A is its field N of option 1 (2 for B; 1 if not told), a missing one is empty.");
        Bench b = new Bench().file('a', "1 k\n2 l\n").file('b', "x y k\nx y m\n").file('c', "one\n").file('d', "\n");
        b.gives("join -1 2 -2 3 a b", "k 1 x y\n");
        b.gives("join -1 2 -2 2 a a", "k 1 1\nl 2 2\n");
        b.gives("join a a", "1 k k\n2 l l\n");
        b.gives("join -1 2 c d", " one\n");
        b.gives("join -1 99999 c d", " one\n");
        b.gives("join -1 2 -2 2 c c", " one one\n");
        b.gives("join d d", "\n");
        b.gives("join -1 3 a d", " 1 k\n 2 l\n");
        b.gives("join -v 2 -2 2 d c", "");
        b.gives("join -t : -1 2 c d", ":one\n");
        new Bench().file('a', "a\na 1\n").file('b', "1\n").gives("join -1 2 -a 1 a b", " a\n1 a\n");
    }

    private static void joinEachWithEach() {
        Bench.sentence("Keys as bytes, the least first: each line of A with each one of B that has its key "
            + "(A's first line with all of B's, and so on)");
        Bench b = new Bench().file('a', "a 0\nk 1\nk 2\n").file('b', "k x\nk y\nl z\n").file('c', "").file('d', "K 1\nk 2\n");
        b.gives("join a b", "k 1 x\nk 1 y\nk 2 x\nk 2 y\n");
        b.gives("join b a", "k x 1\nk x 2\nk y 1\nk y 2\n");
        b.gives("join a c", "");
        b.gives("join c a", "");
        b.gives("join c c", "");
        b.gives("join -a 1 -a 2 d b", "K 1\nk 2 x\nk 2 y\nl z\n");
        new Bench().file('a', "a\nb\n").file('b', "a 1\naa 2\nb 3\n").gives("join a b", "a 1\nb 3\n");
        Bench full = new Bench().file('a', numbered("1")).file('b', numbered("2"));
        full.gives("join -v 2 a b", numbered("2"));
        full.gives("join -v 1 b a", numbered("2"));
        full.gives("join -o 1.1 b b", numbered("2"));
        full.gives("join a b", "");
    }

    private static void joinLonely() {
        Bench.sentence("a, v (N 1 or 2): lines of A (1), B (2) whose key the other has not, too: key and other fields");
        Bench b = new Bench().file('a', "a 1\na 2\nk 3\nz\n").file('b', "b 4\nk 5\n").file('c', "").file('d', "9 q\n");
        b.gives("join -a 1 a b", "a 1\na 2\nk 3 5\nz\n");
        b.gives("join -a 2 a b", "b 4\nk 3 5\n");
        b.gives("join -a 1 -a 2 a b", "a 1\na 2\nb 4\nk 3 5\nz\n");
        b.gives("join -a 1 a c", "a 1\na 2\nk 3\nz\n");
        b.gives("join -a 2 a c", "");
        b.gives("join -a 2 c a", "a 1\na 2\nk 3\nz\n");
        b.gives("join -2 2 -a 2 c d", "q 9\n");
        b.gives("join -1 2 -a 1 d c", "q 9\n");
        b.gives("join -1 3 -a 1 d c", " 9 q\n");
        b.refuses("join -a 0 a b", 5, 8);
        b.refuses("join -a 3 a b", 5, 8);
        b.refuses("join -v 0 a b", 5, 8);
        b.refuses("join -v 3 a b", 5, 8);
    }

    private static void joinLonelyAlone() {
        Bench.sentence("v, told at all: no others but those of a, v.");
        Bench b = new Bench().file('a', "a 1\nk 3\n").file('b', "b 4\nk 5\n").file('c', "");
        b.gives("join -v 1 a b", "a 1\n");
        b.gives("join -v 2 a b", "b 4\n");
        b.gives("join -v 1 -v 2 a b", "a 1\nb 4\n");
        b.gives("join -v 1 -a 2 a b", "a 1\nb 4\n");
        b.gives("join -v 2 -a 2 a b", "b 4\n");
        b.gives("join -v 1 a a", "");
        b.gives("join -v 1 a c", "a 1\nk 3\n");
        b.gives("join -v 2 a c", "");
    }

    private static void joinParts() {
        Bench.sentence("o (0, or F.N with F 1 or 2, with , between): just these: the key (nothing, if it is missing), or that field");
        Bench b = new Bench().file('a', "k 1 2\n").file('b', "k 3\n").file('c', "").file('d', "x\n").file('e', "\n");
        b.gives("join -o 0 a b", "k\n");
        b.gives("join -o 1.3 a b", "2\n");
        b.gives("join -o 2.2,1.2,0,1.1,2.1 a b", "3 1 k k k\n");
        b.gives("join -t ' ' -o 1.2,2.2 a b", "1 3\n");
        b.gives("join -o 0,0,0 a b", "k k k\n");
        b.gives("join -a 1 -o 0,1.2 a c", "k 1\n");
        b.gives("join -a 2 -o 0,2.2 c b", "k 3\n");
        b.gives("join -1 2 -o 0,1.1 d e", " x\n");
        b.gives("join -1 2 -e S -o 0,1.1 d e", " x\n");
        b.gives("join -1 2 -a 1 -e S -o 1.1,0 d c", "x \n");
    }

    private static void joinPartsNotThere() {
        Bench.sentence("one that is not there is S (nothing, if not told)");
        Bench b = new Bench().file('a', "k 1\n").file('b', "k\n").file('c', "").file('d', "k:\n");
        b.gives("join -o 1.2,1.3,2.2 a b", "1  \n");
        b.gives("join -e S -o 1.2,1.3,2.2 a b", "1 S S\n");
        b.gives("join -e 'S T' -o 2.99999 a b", "S T\n");
        b.gives("join -e '' -o 0,2.2 a b", "k \n");
        b.gives("join -a 1 -e S -o 2.1,0,1.1 a c", "S k k\n");
        b.gives("join -a 2 -e S -o 2.1,0,1.1 c a", "k k S\n");
        b.gives("join -a 1 -o 2.1,0 a c", " k\n");
        b.gives("join -t : -e S -o 1.2,1.3 d b", ":S\n");
        b.gives("join -e S a b", "k 1\n");
    }

    private static void trSets() {
        Bench.sentence("SETS are rows of bytes, X-Y those from X to Y");
        Bench b = new Bench().file('a', "a-cz\n").file('b', "\0\u007f\u0080\u00ff\n");
        b.gives("cat a | tr a-c 123", "1-3z\n");
        b.gives("cat a | tr a-a 1", "1-cz\n");
        b.gives("cat a | tr ca 12", "2-1z\n");
        b.gives("cat a | tr a- 12", "12cz\n");
        b.gives("cat a | tr '-a' 12", "21cz\n");
        b.gives("cat a | tr - 1", "a1cz\n");
        b.refuses("cat a | tr --- 1", 4, 11);
        b.gives("cat a | tr '---' 1", "a1cz\n");
        b.gives("cat a | tr a-cz 1234", "1-34\n");
        b.gives("cat a | tr a-c-z 12345", "1435\n");
        b.gives("cat a | tr a-c-a 12345", "543z\n");
        b.gives("cat a | tr +--z 1234", "a3c4\n");
        b.gives("cat a | tr z a-c", "a-ca\n");
        b.gives("cat a | tr ac x-z", "x-yz\n");
        b.gives("cat b | tr \0-\u00ff x", "xxxx\n");
        b.gives("cat b | tr \u0080-\u00ff x", "\0\u007fxx\n");
        b.gives("cat b | tr \u007f-\u0080 xy", "\0xy\u00ff\n");
    }

    private static void trBadSets() {
        Bench.sentence("(X not above Y: 5 at it; a set has a byte: 5)");
        Bench b = new Bench().file('a', "x\n");
        String[] bad = {"b-a", "z-a", "ab-a", "a-cc-b", "\u00ff-\0", "\u0080-\u007f", "a--", "1-0", "''", "''''"};
        for (String set : bad) {
            b.refuses("cat a | tr " + set + " y", 5, 11);
            b.refuses("cat a | tr x " + set, 5, 13);
            b.refuses("cat a | tr -d " + set, 5, 14);
            b.refuses("cat a | tr -s " + set, 5, 14);
            b.refuses("cat a | tr -ds x " + set, 5, 17);
        }
        b.gives("cat a | tr x-x y", "y\n");
        b.gives("cat a | tr w-x ab", "b\n");
    }

    private static void trBecomes() {
        Bench.sentence("Each byte that is in S1 becomes that at its place in S2");
        Bench b = new Bench().file('a', "abc\n\nxyz\n").file('b', "");
        b.gives("cat a | tr abc bca", "bca\n\nxyz\n");
        b.gives("cat a | tr a-z A-Z", "ABC\n\nXYZ\n");
        b.gives("cat a | tr q r", "abc\n\nxyz\n");
        b.gives("cat a | tr a xyz", "xbc\n\nxyz\n");
        b.gives("cat b | tr a b", "");
        b.gives("cat a | tr ab ba | tr ab ba", "abc\n\nxyz\n");
        new Bench().file('a', "\0\u00ff\n").gives("cat a | tr \0\u00ff \u00ff\0", "\u00ff\0\n");
    }

    private static void trLastPlace() {
        Bench.sentence("(its last place in S1");
        Bench b = new Bench().file('a', "ab\n");
        b.gives("cat a | tr aa 12", "2b\n");
        b.gives("cat a | tr aba 123", "32\n");
        b.gives("cat a | tr a-ba 123", "32\n");
        b.gives("cat a | tr aa-b 123", "23\n");
        b.gives("cat a | tr aaa 1", "1b\n");
        b.gives("cat a | tr abab 1234", "34\n");
    }

    private static void trShorterSet() {
        Bench.sentence("the last one of S2 where that is shorter");
        Bench b = new Bench().file('a', "abcde\n");
        b.gives("cat a | tr a-e 1", "11111\n");
        b.gives("cat a | tr a-e 12", "12222\n");
        b.gives("cat a | tr a-e 1234", "12344\n");
        b.gives("cat a | tr a-e 1-3", "12333\n");
        b.gives("cat a | tr a-e 9-91-2", "91222\n");
        b.gives("cat a | tr a-e 12345", "12345\n");
        b.gives("cat a | tr a-e 123456", "12345\n");
        b.gives("cat a | tr a-e 1-", "1----\n");
    }

    private static void trGoes() {
        Bench.sentence("d: it goes.");
        Bench b = new Bench().file('a', "aabca\n\nb\n");
        b.gives("cat a | tr -d a", "bc\n\nb\n");
        b.gives("cat a | tr -d a-c", "\n\n\n");
        b.gives("cat a | tr -d \0-\u00ff", "\n\n\n");
        b.gives("cat a | tr -d q", "aabca\n\nb\n");
        b.gives("cat a | tr -d abab", "c\n\n\n");
    }

    private static void trSqueezes() {
        Bench.sentence("s: then, side by side, alike bytes of the set told last are one.");
        Bench b = new Bench().file('a', "aabbaacc\na\n").file('b', "aba\nccaacc\n");
        b.gives("cat a | tr -s a", "abbacc\na\n");
        b.gives("cat a | tr -s a-c", "abac\na\n");
        b.gives("cat a | tr -s q", "aabbaacc\na\n");
        b.gives("cat a | tr -s a x", "xbbxcc\nx\n");
        b.gives("cat a | tr -s ab xx", "xcc\nx\n");
        b.gives("cat a | tr -s a b", "bcc\nb\n");
        b.gives("cat a | tr -s q c", "aabbaac\na\n");
        b.gives("cat b | tr -ds b a", "a\nccacc\n");
        b.gives("cat b | tr -ds a c", "b\nc\n");
        b.gives("cat b | tr -ds c c", "aba\naa\n");
        b.gives("cat b | tr -s abc", "aba\ncac\n");
        new Bench().file('a', "a\na\n").gives("cat a | tr -s a", "a\na\n");
        new Bench().file('a', "\0\0\u00ff\u00ff\n").gives("cat a | tr -s \0", "\0\u00ff\u00ff\n");
        new Bench().file('a', "\0\0\u00ff\u00ff\n").gives("cat a | tr -s \u00ff", "\0\0\u00ff\n");
        new Bench().file('a', "\0\0\u00ff\u00ff\n").gives("cat a | tr -s \0 \u00ff", "\u00ff\n");
        new Bench().file('a', "y".repeat(240) + "\n").gives("cat a | tr -s y", "y\n");
    }

    private static void trWhichSets() {
        Bench.sentence("(S1 and S2; with d S1 alone, or with d and s both; with s alone also S1 alone: nothing becomes another one.)");
        Bench b = new Bench().file('a', "aab\n");
        b.gives("cat a | tr a b", "bbb\n");
        b.refuses("cat a | tr a", 6, 8);
        b.gives("cat a | tr -d a", "b\n");
        b.refuses("cat a | tr -d", 6, 8);
        b.gives("cat a | tr -d -s a b", "b\n");
        b.refuses("cat a | tr -d -s a", 6, 8);
        b.gives("cat a | tr -s a", "ab\n");
        b.gives("cat a | tr -s a b", "b\n");
        b.refuses("cat a | tr -s", 6, 8);
        b.refuses("cat a | tr", 6, 8);
    }
}

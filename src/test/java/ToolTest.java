/** Promise 6: what each tool gives. */
public final class ToolTest {
    public static void main(String[] args) {
        catAndTurns();
        headAndTail();
        wc();
        cutFields();
        cutBytes();
        paste();
        pasteSerial();
        uniq();
        uniqBehindPieces();
        sort();
        sortByNumbers();
        sortByFields();
        sortOnce();
        comm();
        join();
        joinLonely();
        joinByFields();
        joinParts();
        tr();
        trGoesAndSqueezes();
        chains();
        Bench.finish();
    }

    private static void catAndTurns() {
        Bench b = new Bench().file('a', "x\nyz\n").file('b', "\n1\n").file('c', "");
        b.gives("cat a", "x\nyz\n");
        b.gives("cat a b a", "x\nyz\n\n1\nx\nyz\n");
        b.gives("cat c", "");
        b.gives("cat b | cat a - c a", "x\nyz\n\n1\nx\nyz\n");
        b.gives("cat a | cat b", "\n1\n");
        b.gives("tac a", "yz\nx\n");
        b.gives("cat a b | tac", "1\n\nyz\nx\n");
        b.gives("tac c", "");
        b.gives("rev a", "x\nzy\n");
        b.gives("cat b | rev -", "\n1\n");
        b.gives("rev c", "");
        new Bench().file('a', "\0\u00ff\t a\n").gives("rev a", "a \t\u00ff\0\n");
    }

    private static void headAndTail() {
        Bench b = new Bench().file('a', "1\n2\n3\n4\n5\n6\n7\n8\n9\n10\n11\n12\n").file('b', "1\n2\n").file('c', "");
        b.gives("head a", "1\n2\n3\n4\n5\n6\n7\n8\n9\n10\n");
        b.gives("tail a", "3\n4\n5\n6\n7\n8\n9\n10\n11\n12\n");
        b.gives("head -n 1 a", "1\n");
        b.gives("tail -n1 a", "12\n");
        b.gives("head -n 12 a | tail -n 2", "11\n12\n");
        b.gives("head -n 2 b", "1\n2\n");
        b.gives("tail -n 3 b", "1\n2\n");
        b.gives("head b", "1\n2\n");
        b.gives("tail c", "");
        b.gives("head c", "");
    }

    private static void wc() {
        Bench b = new Bench().file('a', "a b\n\n  c\td e \n").file('b', "").file('c', "\r\u00a0\0\n")
            .file('d', ("y".repeat(29) + "\n").repeat(300));
        b.gives("wc a", "3 5 14\n");
        b.gives("wc -l a", "3\n");
        b.gives("wc -w a", "5\n");
        b.gives("wc -c a", "14\n");
        b.gives("wc -c -l a", "3 14\n");
        b.gives("wc -cw a", "5 14\n");
        b.gives("wc -clw a", "3 5 14\n");
        b.gives("wc b", "0 0 0\n");
        b.gives("wc c", "1 1 4\n");
        b.gives("wc d", "300 300 9000\n");
        b.gives("paste -d '\\0' d d d d d d d d | wc", "300 300 69900\n");
        b.gives("paste -s a | tr '\t' '\n' | wc", "1 4 14\n");
    }

    private static void cutFields() {
        Bench b = new Bench().file('a', "a:b:c\nxyz\n::\n:q\n\n").file('b', "1\t2\t3\n4 5\n");
        b.gives("cut -f 2 -d : a", "b\nxyz\n\nq\n\n");
        b.gives("cut -d: -f1,3 a", "a:c\nxyz\n:\n\n\n");
        b.gives("cut -d: -f3,1,1-1 a", "a:c\nxyz\n:\n\n\n");
        b.gives("cut -d: -f2- a", "b:c\nxyz\n:\nq\n\n");
        b.gives("cut -d: -f-2 a", "a:b\nxyz\n:\n:q\n\n");
        b.gives("cut -d: -f9 a", "\nxyz\n\n\n\n");
        b.gives("cut -s -d: -f2 a", "b\n\nq\n");
        b.gives("cut -s -d: -f 1-99999 a", "a:b:c\n::\n:q\n");
        b.gives("cut -f 2,3 b", "2\t3\n4 5\n");
        b.gives("cut -f 2 -d' ' b", "1\t2\t3\n5\n");
        b.gives("cut -f 1 -f 2 b", "2\n4 5\n");
        b.gives("cut -sf2 b", "2\n");
        b.gives("cut -f 2 -d x -d : a", "b\nxyz\n\nq\n\n");
        new Bench().file('a', ":".repeat(239) + "z\n").gives("cut -d: -f240,99999 a", "z\n");
        new Bench().file('a', ":".repeat(240) + "\n").gives("cut -d: -f2- a", ":".repeat(239) + "\n");
        new Bench().file('a', "a b\0c\n").gives("cut -d\0 -f2 a", "c\n");
        new Bench().file('a', "a\u00ffb\n").gives("cut -d\u00ff -f2 a", "b\n");
    }

    private static void cutBytes() {
        Bench b = new Bench().file('a', "abcdef\nxy\n\n");
        b.gives("cut -b 2 a", "b\ny\n\n");
        b.gives("cut -b 4-,1 a", "adef\nx\n\n");
        b.gives("cut -b -2,5 a", "abe\nxy\n\n");
        b.gives("cut -b 7 a", "\n\n\n");
        b.gives("cut -b 1 -b 2 a", "b\ny\n\n");
        b.gives("cut -b 3-3,2-4 a", "bcd\ny\n\n");
        new Bench().file('a', "x".repeat(239) + "y\n").gives("cut -b 240 a", "y\n");
        new Bench().file('a', "x".repeat(239) + "y\n").gives("cut -b 240- a", "y\n");
    }

    private static void paste() {
        Bench b = new Bench().file('a', "1\n2\n3\n").file('b', "x\n").file('c', "");
        b.gives("paste a b", "1\tx\n2\t\n3\t\n");
        b.gives("paste b a", "x\t1\n\t2\n\t3\n");
        b.gives("paste a", "1\n2\n3\n");
        b.gives("paste c c", "");
        b.gives("paste c b", "\tx\n");
        b.gives("paste -d :, a a a a", "1:1,1:1\n2:2,2:2\n3:3,3:3\n");
        b.gives("paste -d '\\0\\n\\t\\\\-' b b b b b b b", "xx x\tx\\x-xx\n");
        b.gives("paste -d \\0 a a", "11\n22\n33\n");
        b.gives("paste -d 0nt a a a a", "101n1t1\n202n2t2\n303n3t3\n");
        b.gives("cat b | paste -d: a - a", "1:x:1\n2::2\n3::3\n");
        b.gives("paste -d x -d y a a", "1y1\n2y2\n3y3\n");
        b.gives("paste -d '\n' b b | wc", "1 1 4\n");
    }

    private static void pasteSerial() {
        Bench b = new Bench().file('a', "1\n2\n3\n4\n").file('b', "x\n").file('c', "").file('d', "\n\n");
        b.gives("paste -s a b", "1\t2\t3\t4\nx\n");
        b.gives("paste -sd :, a a", "1:2,3:4\n1:2,3:4\n");
        b.gives("paste -s c b c", "\nx\n\n");
        b.gives("paste -s d", "\t\n");
        b.gives("paste -s -d '\\0' a", "1234\n");
        b.gives("cat a b | paste -s -d '\\0-' -", "12-34-x\n");
        new Bench().file('a', "\n".repeat(241)).gives("paste -s -d : a", ":".repeat(240) + "\n");
        new Bench().file('a', "\n".repeat(242)).refuses("paste -s -d : a", 9, 0);
        new Bench().file('a', "\n".repeat(300)).gives("paste -s -d '" + "\\0".repeat(297) + "xyz' a", "xy\n");
    }

    private static void uniq() {
        Bench b = new Bench().file('a', "a\na\nb\na\nc\nc\nc\n").file('b', "").file('c', "x\n").file('d', "a\nab\nA\n\n\n");
        b.gives("uniq a", "a\nb\na\nc\n");
        b.gives("uniq -c a", "   2 a\n   1 b\n   1 a\n   3 c\n");
        b.gives("uniq -d a", "a\nc\n");
        b.gives("uniq -u a", "b\na\n");
        b.gives("uniq -d -u a", "");
        b.gives("uniq -cd a", "   2 a\n   3 c\n");
        b.gives("uniq -uc a", "   1 b\n   1 a\n");
        b.gives("uniq b", "");
        b.gives("uniq -c c", "   1 x\n");
        b.gives("uniq d", "a\nab\nA\n\n");
        new Bench().file('a', "q\n".repeat(300)).gives("uniq -c a", " 300 q\n");
        new Bench().file('a', "q\n".repeat(10)).gives("uniq -c a", "  10 q\n");
    }

    private static void uniqBehindPieces() {
        Bench b = new Bench().file('a', "1 x\n2 x\n3  x\n4\tx\n\t5 x\n");
        b.gives("uniq -f 1 a", "1 x\n3  x\n4\tx\n\t5 x\n");
        b.gives("uniq -f1 -c a", "   2 1 x\n   1 3  x\n   1 4\tx\n   1 \t5 x\n");
        b.gives("uniq -f 2 a", "1 x\n");
        b.gives("uniq -f 99999 a", "1 x\n");
        Bench c = new Bench().file('a', "a b \na b\nc  \n").file('b', " x y\nz y\n");
        c.gives("uniq -f 1 a", "a b \na b\nc  \n");
        c.gives("uniq -f 2 a", "a b \na b\n");
        c.gives("uniq -f 3 a", "a b \n");
        c.gives("uniq -f 1 b", " x y\n");
    }

    private static void sort() {
        Bench b = new Bench().file('a', "b\na\nab\n\nA\n\u00ff\n\u007f\n").file('b', "c\na\n").file('c', "");
        b.gives("sort a", "\nA\na\nab\nb\n\u007f\n\u00ff\n");
        b.gives("sort -r a", "\u00ff\n\u007f\nb\nab\na\nA\n\n");
        b.gives("sort a b", "\nA\na\na\nab\nb\nc\n\u007f\n\u00ff\n");
        b.gives("cat b | sort", "a\nc\n");
        b.gives("cat b | sort b -", "a\na\nc\nc\n");
        b.gives("sort c", "");
        b.gives("sort c b c", "a\nc\n");
    }

    private static void sortByNumbers() {
        Bench b = new Bench().file('a', "10\n9\n-1\n-10\n0\n1.5\n1.25\n-1.5\n");
        b.gives("sort -n a", "-10\n-1.5\n-1\n0\n1.25\n1.5\n9\n10\n");
        b.gives("sort -rn a", "10\n9\n1.5\n1.25\n0\n-1\n-1.5\n-10\n");
        Bench alike = new Bench().file('a', "1.0\n01\n1\n+1\n-0\n0\nx\n-\n.5\n-.5\n 1\n\t 1.\n1.00x\n\n");
        alike.gives("sort -n a", "\n+1\n-\n-.5\n-0\n.5\n0\nx\n\t 1.\n 1\n01\n1\n1.0\n1.00x\n");
        alike.gives("sort -nu a", "+1\n1.0\n");
        Bench wide = new Bench().file('a', "9".repeat(200) + "\n1" + "0".repeat(200) + "\n0." + "0".repeat(200) + "1\n0\n-0."
            + "0".repeat(200) + "1\n-9" + "0".repeat(230) + "\n");
        wide.gives("sort -n a", "-9" + "0".repeat(230) + "\n-0." + "0".repeat(200) + "1\n0\n0." + "0".repeat(200) + "1\n"
            + "9".repeat(200) + "\n1" + "0".repeat(200) + "\n");
        new Bench().file('a', "1.10\n1.1\n1.09\n1.2\n").gives("sort -n a", "1.09\n1.1\n1.10\n1.2\n");
        new Bench().file('a', "- 5\n--5\n-5\n1e3\n2\n").gives("sort -n a", "-5\n- 5\n--5\n1e3\n2\n");
    }

    private static void sortByFields() {
        Bench b = new Bench().file('a', "x:2:c\ny:1:b\nz:10:a\nw\n");
        b.gives("sort -t : -k 2 a", "w\nz:10:a\ny:1:b\nx:2:c\n");
        b.gives("sort -t : -k 2 -n a", "w\ny:1:b\nx:2:c\nz:10:a\n");
        b.gives("sort -t: -k3 a", "w\nz:10:a\ny:1:b\nx:2:c\n");
        b.gives("sort -t: -k3 -r a", "x:2:c\ny:1:b\nz:10:a\nw\n");
        b.gives("sort -t: -k2,2 -nr a", "z:10:a\nx:2:c\ny:1:b\nw\n");
        Bench upTo = new Bench().file('a', "b:1:9\na:1:8\nc:1\n");
        upTo.gives("sort -t: -k2,2 a", "a:1:8\nb:1:9\nc:1\n");
        upTo.gives("sort -t: -k2,3 a", "c:1\na:1:8\nb:1:9\n");
        upTo.gives("sort -t: -k2,7 a", "c:1\na:1:8\nb:1:9\n");
        upTo.gives("sort -t: -k2,2 -r a", "c:1\nb:1:9\na:1:8\n");
        Bench pieces = new Bench().file('a', "a  2\nb 1\nc\t3\n  d 0\n");
        pieces.gives("sort -k 2 a", "c\t3\na  2\n  d 0\nb 1\n");
        pieces.gives("sort -k 2 -n a", "  d 0\nb 1\na  2\nc\t3\n");
        pieces.gives("sort -k 1,1 a", "  d 0\na  2\nb 1\nc\t3\n");
        pieces.gives("sort -k 3 a", "  d 0\na  2\nb 1\nc\t3\n");
        new Bench().file('a', "a \na\na  \n").gives("sort -r -k 2 a", "a  \na \na\n");
        new Bench().file('a', "1:b\n1:a\n0:c\n").gives("sort -t: -k1,1 -k 2 a", "1:a\n1:b\n0:c\n");
    }

    private static void sortOnce() {
        Bench b = new Bench().file('a', "b 1\na 1\nc 0\nb 1\n").file('b', "a 1\nd 0\n");
        b.gives("sort -u a", "a 1\nb 1\nc 0\n");
        b.gives("sort -u -k 2 a", "c 0\nb 1\n");
        b.gives("sort -ru -k 2 a", "b 1\nc 0\n");
        b.gives("sort -u -k 2 b a", "d 0\na 1\n");
        b.gives("sort -ur a b", "d 0\nc 0\nb 1\na 1\n");
        new Bench().file('a', "1\n01\n1.0\n2\n").gives("sort -un a", "1\n2\n");
        new Bench().file('a', "01\n1\n1.0\n2\n").gives("sort -unr a", "2\n01\n");
        StringBuilder many = new StringBuilder();
        for (int i = 0; i < 300; i++) {
            many.append((char) ('a' + i * 7 % 26)).append(i * 37 % 300).append('\n');
        }
        new Bench().file('a', many.toString()).gives("sort -u a a a a a a a a a a a | wc -l", "300\n");
    }

    private static void comm() {
        Bench b = new Bench().file('a', "a\nb\nb\nd\n").file('b', "b\nc\nd\nd\n").file('c', "");
        b.gives("comm a b", "a\n\t\tb\nb\n\tc\n\t\td\n\td\n");
        b.gives("comm -1 a b", "\tb\nc\n\td\nd\n");
        b.gives("comm -2 a b", "a\n\tb\nb\n\td\n");
        b.gives("comm -3 a b", "a\nb\n\tc\n\td\n");
        b.gives("comm -12 a b", "b\nd\n");
        b.gives("comm -1 -3 a b", "c\nd\n");
        b.gives("comm -23 a b", "a\nb\n");
        b.gives("comm -123 a b", "");
        b.gives("comm a c", "a\nb\nb\nd\n");
        b.gives("comm c a", "\ta\n\tb\n\tb\n\td\n");
        b.gives("comm a a", "\t\ta\n\t\tb\n\t\tb\n\t\td\n");
        b.gives("comm c c", "");
        b.gives("tac b | sort | comm a -", "a\n\t\tb\nb\n\tc\n\t\td\n\td\n");
        new Bench().file('a', "a\nab\n").file('b', "\na\n\u0080\n").gives("comm a b", "\t\n\t\ta\nab\n\t\u0080\n");
    }

    private static void join() {
        Bench b = new Bench().file('a', "a 1\nb 2 x\nb 3\nd 4\n").file('b', "b p\nb  q\tr\nc s\nd\n").file('c', "");
        b.gives("join a b", "b 2 x p\nb 2 x q r\nb 3 p\nb 3 q r\nd 4\n");
        b.gives("join b a", "b p 2 x\nb p 3\nb q r 2 x\nb q r 3\nd 4\n");
        b.gives("join a c", "");
        b.gives("join c c", "");
        b.gives("cat b | join a -", "b 2 x p\nb 2 x q r\nb 3 p\nb 3 q r\nd 4\n");
        new Bench().file('a', "  a\t 1 \n").file('b', "\ta 2\n").gives("join a b", "a 1 2\n");
        new Bench().file('a', "\n \na\n").file('b', "\t\nb\n").gives("join a b", "\n\n");
    }

    private static void joinLonely() {
        Bench b = new Bench().file('a', "a 1\na 2\nb 2\ne 5\n").file('b', "b p\nc q\nc r\nz z\n");
        b.gives("join -a 1 a b", "a 1\na 2\nb 2 p\ne 5\n");
        b.gives("join -a 2 a b", "b 2 p\nc q\nc r\nz z\n");
        b.gives("join -a 1 -a 2 a b", "a 1\na 2\nb 2 p\nc q\nc r\ne 5\nz z\n");
        b.gives("join -a2 -a2 -a1 a b", "a 1\na 2\nb 2 p\nc q\nc r\ne 5\nz z\n");
        b.gives("join -v 1 a b", "a 1\na 2\ne 5\n");
        b.gives("join -v 02 a b", "c q\nc r\nz z\n");
        b.gives("join -v 1 -v 2 a b", "a 1\na 2\nc q\nc r\ne 5\nz z\n");
        b.gives("join -a 1 -v 2 a b", "a 1\na 2\nc q\nc r\ne 5\nz z\n");
        b.gives("join -v 1 -a 1 a b", "a 1\na 2\ne 5\n");
        new Bench().file('a', "x\n").file('b', "").gives("join -1 2 -a 1 a b", " x\n");
    }

    private static void joinByFields() {
        Bench b = new Bench().file('a', "1:k:x\n2:l:\n").file('b', "p:q:k\n::l\n");
        b.gives("join -t : -1 2 -2 3 a b", "k:1:x:p:q\nl:2:::\n");
        b.gives("join -t: -12 -23 a b", "k:1:x:p:q\nl:2:::\n");
        b.gives("join -t: -1 1 -1 2 -2 3 -o 1.1 a b", "1\n2\n");
        Bench missing = new Bench().file('a', "x\ny z\n").file('b', "\np q\n");
        missing.gives("join -1 2 a b", " x\n");
        missing.gives("join -1 3 a b", " x\n y z\n");
        missing.gives("join -1 3 -2 9 a b", " x\n x p q\n y z\n y z p q\n");
        new Bench().file('a', ":1\n").file('b', "\n").gives("join -t: a b", ":1\n");
        new Bench().file('a', ":".repeat(240) + "\n").file('b', "\n").gives("join -t: a b", ":".repeat(240) + "\n");
        new Bench().file('a', " 1\n").file('b', " 2\n").gives("join -t ' ' a b", " 1 2\n");
        new Bench().file('a', "k\n").file('b', "k\n").gives("join -t: -a1 -2 2 a b", "k\n");
    }

    private static void joinParts() {
        Bench b = new Bench().file('a', "a 1\nb 2 x\n").file('b', "b p\nc q\n");
        b.gives("join -o 0,1.2,2.2 a b", "b 2 p\n");
        b.gives("join -o 2.2,0,2.2,1.1 a b", "p b p b\n");
        b.gives("join -o 1.3,1.4,2.9 a b", "x  \n");
        b.gives("join -e - -o 1.3,1.4,2.00009 a b", "x - -\n");
        b.gives("join -a1 -a2 -e '' -e NO -o 0,1.2,2.2 a b", "a 1 NO\nb 2 p\nc NO q\n");
        b.gives("join -v1 -v2 -o 0,1.1,2.1 a b", "a a \nc  c\n");
        b.gives("join -o 0 -o 1.2 a b", "2\n");
        b.gives("join -e NO a b", "b 2 x p\n");
        new Bench().file('a', "k::\n").file('b', "k\n").gives("join -t: -e E -o 1.2,1.3,1.4,2.1,2.2 a b", "::E:k:E\n");
        new Bench().file('a', "x\n").file('b', "\n").gives("join -1 2 -e E -o 0,1.1,2.1 a b", " x E\n");
        new Bench().file('a', "x\n").file('b', "").gives("join -t, -1 2 -a 1 -e E -o 0,1.2,2.1,1.1 a b", ",E,E,x\n");
    }

    private static void tr() {
        Bench b = new Bench().file('a', "hello-world\n\nabc\n");
        b.gives("cat a | tr a-z A-Z", "HELLO-WORLD\n\nABC\n");
        b.gives("cat a | tr lo 01", "he001-w1r0d\n\nabc\n");
        b.gives("cat a | tr a-z x", "xxxxx-xxxxx\n\nxxx\n");
        b.gives("cat a | tr a-cl 12", "he22o-wor2d\n\n122\n");
        b.gives("cat a | tr lal 123", "he33o-wor3d\n\n2bc\n");
        b.gives("cat a | tr - _", "hello_world\n\nabc\n");
        b.gives("cat a | tr l- 12", "he11o2wor1d\n\nabc\n");
        b.gives("cat a | tr '-l' 12", "he22o1wor2d\n\nabc\n");
        b.gives("cat a | tr a-c-h 1234567", "5ello4world\n\n123\n");
        b.gives("cat a | tr ab --b", "hello-world\n\n-.c\n");
        b.gives("cat a | tr a xyz", "hello-world\n\nxbc\n");
        new Bench().file('a', "\0\u0080\u00ff\n").gives("cat a | tr \0\u0080-\u00ff a-c", "abc\n");
        new Bench().file('a', "ab\n").gives("cat a | tr a '\n' | wc", "1 1 3\n");
    }

    private static void trGoesAndSqueezes() {
        Bench b = new Bench().file('a', "aabbccaa\nxaax\n");
        b.gives("cat a | tr -d a", "bbcc\nxx\n");
        b.gives("cat a | tr -d a-z", "\n\n");
        b.gives("cat a | tr -s a", "abbcca\nxax\n");
        b.gives("cat a | tr -s a-c", "abca\nxax\n");
        b.gives("cat a | tr -s ab xx", "xccx\nx\n");
        b.gives("cat a | tr -s a-b cd", "cdc\nxcx\n");
        b.gives("cat a | tr -s a b", "bccb\nxbx\n");
        b.gives("cat a | tr -ds a x", "bbcc\nx\n");
        b.gives("cat a | tr -d -s b ac", "aca\nxax\n");
        b.gives("cat a | tr -d -d a", "bbcc\nxx\n");
    }

    private static void chains() {
        Bench b = new Bench().file('a', "the cat\nthe dog\na cat\n").file('b', "cat\nfish\n");
        b.gives("cut -d ' ' -f 2 a | sort | uniq -c | sort -rn | head -n 1", "   2 cat\n");
        b.gives("cut -d ' ' -f 2 a|sort -u|comm -12 - b", "cat\n");
        b.gives("paste b a | paste b", "cat\nfish\n");
        b.gives("sort b a | sort b", "cat\nfish\n");
        b.gives("cat b a | cat b", "cat\nfish\n");
        b.gives("paste -s b a | paste -s b", "cat\tfish\n");
        b.gives("cat b | tr a-z A-Z | tr A-B x", "CxT\nFISH\n");
        b.gives("sort -r -n a | sort b | head -n 1 | head", "cat\n");
        b.gives("join -v 1 -o 1.1 b b | cat b - | join - b", "cat\nfish\n");
        b.gives("sort -k 2 a | join -1 2 - b", "cat a\ncat the\n");
        b.gives("cat a | tr ' ' : | paste -s -d , - | rev", "tac:a,god:eht,tac:eht\n");
    }
}

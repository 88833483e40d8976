/** What a command gives depends on the files and its words alone, not on the commands and tools before it. */
public final class CarryOverTest {
    private static final String[] COMMANDS = {
        "cat a b c", "tac a", "rev b", "head -n 1 a", "head a", "tail -n 1 a", "tail a", "wc -l a", "wc -w a", "wc -c a", "wc a",
        "cut -f 2 b", "cut -d : -f 1 b", "cut -s -d : -f 2- b", "cut -b 2-3 a", "paste a b", "paste -d :, a b a", "paste -d '\\0' a a",
        "paste -s a", "paste -s -d xy b a", "uniq a", "uniq -c a", "uniq -d a", "uniq -u a", "uniq -f 1 a",
        "sort a", "sort -r a", "sort -n a b", "sort -u a a", "sort -k 2 a", "sort -k 1,1 -u a", "sort -t : -k 2 b", "sort -t : -k 1,1 b",
        "comm c d", "comm -1 c d", "comm -2 c d", "comm -3 c d", "join c d", "join -t : c d", "join -1 2 c d", "join -2 2 c d",
        "join -a 1 c d", "join -a 2 c d", "join -v 1 c d", "join -v 2 c d", "join -o 1.3,0,2.3 c d", "join -e S -o 0,1.3,2.9 c d",
        "join -e '' -o 2.3 c d", "cat a | tr a-c x-z", "cat a | tr -d b", "cat a | tr -s a-z", "cat a | tr -s b c", "cat a | tr -ds c b",
        "cat a a a | tac | sort -r | uniq -c", "cat i", "comm a c", "join c a", "frob", "cat 'a", "cut -f 0 a", "head -x", "cat k",
        "paste -s -d '' a", "sort -k 2,1 a", "cat j j j j j j", "cat j | paste -s -",
    };

    public static void main(String[] args) {
        for (String first : COMMANDS) {
            for (String second : COMMANDS) {
                behind(first, second);
            }
        }
        optionsOfTheToolBefore();
        Bench.finish();
    }

    private static Bench bench() {
        return new Bench().file('a', "b 2\nb 2\nab c\na  10\ncc\tb\n").file('b', "x:2\ny\t1\nz:1:3\n\n").file('c', "a 1\nb 2\nb 3 q\nd\n")
            .file('d', "b x\nb y z\nc\nd w\n").file('j', "1\n".repeat(100));
    }

    private static void behind(String first, String second) {
        Session fresh = bench().make();
        int due = Bench.runText(fresh, second);
        Session used = bench().make();
        Bench.runText(used, first);
        String before = Bench.textOf(used, 10);
        String what = second + " behind " + first;
        Bench.same(what, Bench.runText(used, second), due);
        Bench.same(what + " : code", used.fault(), fresh.fault());
        Bench.same(what + " : line", used.line(), fresh.line());
        Bench.same(what + " : side", used.side(), fresh.side());
        Bench.same(what + " : OUT", Bench.textOf(used, 10), due < 0 ? before : Bench.textOf(fresh, 10));
    }

    private static void optionsOfTheToolBefore() {
        Bench b = new Bench().file('a', "1\n2\n2\n").file('b', "2\n3\n").file('c', "a:2\nb:1\n");
        b.gives("join -a 1 a b | join - b", "2\n2\n");
        b.gives("join -a 1 -a 2 a b | join - a", "1\n2\n2\n2\n2\n");
        b.gives("join -v 2 a b | join - b", "3\n");
        b.gives("join -e S -o 0,1.2 a b | join -o 0,1.3 - b", "2 \n2 \n");
        b.gives("join -o 1.1,2.1 a b | join - b", "2 2\n2 2\n");
        b.gives("sort -r a | sort", "1\n2\n2\n");
        b.gives("sort -t : -k 2 c | sort", "a:2\nb:1\n");
        b.gives("sort -t : -k 2,2 c | sort -t : -k 1", "a:2\nb:1\n");
        b.gives("sort -u a | cat - a | sort", "1\n1\n2\n2\n2\n");
        b.gives("uniq -c a | uniq", "   1 1\n   2 2\n");
        b.gives("uniq -d a | uniq", "2\n");
        b.gives("head -n 1 a | cat - a | head", "1\n1\n2\n2\n");
        b.gives("paste -s -d : a | paste - a", "1:2:2\t1\n\t2\n\t2\n");
        b.gives("cut -d : -f 2 c | cut -f 1", "2\n1\n");
        b.gives("comm -12 a b | comm - b", "\t\t2\n\t3\n");
        b.gives("wc -l a | wc", "1 1 2\n");
        b.gives("cat a | tr -d 1 | tr 2 3", "\n3\n3\n");
        b.gives("cat a | tr -s 2 | tr 1 2", "2\n2\n2\n");
    }
}

import java.lang.reflect.Constructor;
import java.lang.reflect.Field;
import java.lang.reflect.Method;
import java.lang.reflect.Modifier;
import java.util.TreeSet;

/** The face, and promises 1 to 5 and 10 to 12: the tape, files, and reading them. */
public final class StateTest {
    public static void main(String[] args) {
        face();
        newObject();
        feed();
        end();
        store();
        storeLimits();
        drop();
        lines();
        length();
        byteAt();
        Bench.finish();
    }

    private static void face() {
        TreeSet<String> seen = new TreeSet<>();
        for (Method m : TextTools.class.getDeclaredMethods()) {
            if (!Modifier.isPrivate(m.getModifiers()) && !m.isSynthetic()) {
                seen.add(m.getReturnType() + " " + m.getName() + m.getParameterCount());
            }
        }
        for (Field f : TextTools.class.getDeclaredFields()) {
            if (!Modifier.isPrivate(f.getModifiers()) && !f.isSynthetic()) {
                seen.add("field " + f.getName());
            }
        }
        for (Constructor<?> c : TextTools.class.getDeclaredConstructors()) {
            seen.add("constructor" + c.getParameterCount() + " " + Modifier.isPublic(c.getModifiers()));
        }
        Bench.same("the face", seen.toString(), "[boolean drop1, constructor0 true, field NONE, int byteAt3, "
            + "int fault0, int feed5, int length2, int line0, int lines1, int run0, int side0, int store1, void end1]");
        Bench.same("NONE", TextTools.NONE, -1);
    }

    private static void newObject() {
        Session x = new Session();
        for (int file = 0; file < 10; file++) {
            Bench.same("new: lines of " + file, x.lines(file), -1);
            Bench.same("new: drop " + file, x.drop(file) ? 1 : 0, 0);
        }
        Bench.same("new: OUT", x.lines(10), 0);
        Bench.same("new: fault", x.fault(), 0);
        Bench.same("new: line", x.line(), 0);
        Bench.same("new: side", x.side(), 0);
        x.end(0);
        Bench.throwsIt("new: end(1)", IllegalArgumentException.class, () -> x.end(1));
        Bench.same("new: feed", x.feed(1, 2, 3, 4, 5), 20);
        Bench.same("another new one", new TextTools().store(0), 0);
    }

    private static void feed() {
        Session x = new Session();
        Bench.same("feed", x.feed(0x61626364, 0x65666768, 0x80ff0102, -1, 0x7f000041), 20);
        Bench.same("feed again", x.feed(0x41000000, 0, 0, 0, 0), 40);
        x.end(21);
        Bench.same("what was fed", x.store(3), 1);
        Bench.same("its bytes", Bench.textOf(x, 3), "abcdefgh\u0080\u00ff\u0001\u0002\u00ff\u00ff\u00ff\u00ff\u007f\0\0AA\n");
        Session y = new Session();
        for (int n = 1; n <= 450; n++) {
            Bench.same("feed " + n, y.feed(0x61616161, 0x61616161, 0x61616161, 0x61616161, 0x6161610a), 20 * n);
        }
        Bench.throwsIt("feed beyond 9000", UnsupportedOperationException.class, () -> y.feed(0, 0, 0, 0, 0));
        y.end(8981);
        Bench.throwsIt("feed beyond 9000 by one", UnsupportedOperationException.class, () -> y.feed(0, 0, 0, 0, 0));
        y.end(8980);
        Bench.same("feed to 9000", y.feed(0x0a0a0a0a, 0x0a0a0a0a, 0x0a0a0a0a, 0x0a0a0a0a, 0x0a0a0a0a), 9000);
        Bench.throwsIt("469 lines", UnsupportedOperationException.class, () -> y.store(0));
        y.end(6000);
        Bench.same("300 lines of 19", y.store(0), 300);
        Bench.same("the last of them", y.length(0, 299), 19);
    }

    private static void end() {
        Session x = new Session();
        Bench.lay(x, "abcdefghijklmnopqrstuvwxyz");
        x.end(26);
        Bench.throwsIt("end(27) of 26", IllegalArgumentException.class, () -> x.end(27));
        Bench.throwsIt("end(-1)", IllegalArgumentException.class, () -> x.end(-1));
        Bench.throwsIt("end(least)", IllegalArgumentException.class, () -> x.end(Integer.MIN_VALUE));
        Bench.throwsIt("end(most)", IllegalArgumentException.class, () -> x.end(Integer.MAX_VALUE));
        x.end(3);
        Bench.throwsIt("end(4) of 3", IllegalArgumentException.class, () -> x.end(4));
        Bench.same("behind the end", x.feed(0x41420000, 0, 0, 0, 0), 23);
        x.end(5);
        x.store(0);
        Bench.same("the first ones stay", Bench.textOf(x, 0), "abcAB\n");
    }

    private static void store() {
        Session x = new Session();
        Bench.same("nothing", x.store(0), 0);
        Bench.same("an empty file is there", x.lines(0), 0);
        Bench.same("ended", Bench.storeText(x, 0, "a\nbc\n"), 2);
        Bench.same("ended: bytes", Bench.textOf(x, 0), "a\nbc\n");
        Bench.same("not ended", Bench.storeText(x, 9, "a\nbc"), 2);
        Bench.same("not ended: bytes", Bench.textOf(x, 9), "a\nbc\n");
        Bench.same("empty lines", Bench.storeText(x, 9, "\n\n\nx"), 4);
        Bench.same("empty lines: bytes", Bench.textOf(x, 9), "\n\n\nx\n");
        Bench.same("all but 10", Bench.storeText(x, 1, "\0\r\t \u00ff|>'\n"), 1);
        Bench.same("all but 10: bytes", Bench.textOf(x, 1), "\0\r\t \u00ff|>'\n");
        Bench.same("the tape is empty then", x.feed(0x78780000, 0, 0, 0, 0), 20);
        x.end(2);
        int[] no = {-1, 10, 11, Integer.MIN_VALUE, Integer.MAX_VALUE};
        for (int file : no) {
            Bench.throwsIt("store(" + file + ")", IndexOutOfBoundsException.class, () -> x.store(file));
        }
        Bench.same("the tape stayed", x.store(5), 1);
        Bench.same("the tape stayed: bytes", Bench.textOf(x, 5), "xx\n");
    }

    private static void storeLimits() {
        Session x = new Session();
        String longest = Bench.times("y", 240);
        Bench.same("240 bytes", Bench.storeText(x, 0, "a\n" + longest + "\nb"), 3);
        Bench.same("240 bytes: length", x.length(0, 1), 240);
        Bench.throwsIt("241 bytes", UnsupportedOperationException.class, () -> Bench.storeText(x, 0, longest + "y"));
        Bench.throwsIt("241 bytes, ended", UnsupportedOperationException.class, () -> x.store(1));
        Bench.throwsIt("241 bytes behind others", UnsupportedOperationException.class,
            () -> Bench.storeText(x, 0, "a\nb\n" + longest + "y\nc\n"));
        x.end(0);
        Bench.lay(x, longest + "y");
        Bench.throwsIt("no file is said first", IndexOutOfBoundsException.class, () -> x.store(10));
        Bench.same("the file stayed", x.lines(0), 3);
        Bench.same("none came", x.lines(1), -1);
        x.end(240);
        Bench.same("the tape stayed", x.store(1), 1);
        Bench.same("300 lines", Bench.storeText(x, 2, Bench.times("\n", 300)), 300);
        Bench.same("300 lines, the last not ended", Bench.storeText(x, 2, Bench.times("\n", 299) + "a"), 300);
        Bench.throwsIt("301 lines", UnsupportedOperationException.class,
            () -> Bench.storeText(x, 2, Bench.times("\n", 301)));
        Bench.throwsIt("301 lines, the last not ended", UnsupportedOperationException.class,
            () -> Bench.storeText(x, 2, Bench.times("\n", 300) + "a"));
        Bench.same("300 lines stayed", Bench.textOf(x, 2), Bench.times("\n", 299) + "a\n");
    }

    private static void drop() {
        Session x = new Session();
        Bench.storeText(x, 0, "a\n");
        Bench.storeText(x, 9, "");
        Bench.same("drop", x.drop(0) ? 1 : 0, 1);
        Bench.same("drop an empty one", x.drop(9) ? 1 : 0, 1);
        Bench.same("drop again", x.drop(0) ? 1 : 0, 0);
        Bench.same("dropped", x.lines(0), -1);
        Bench.same("dropped for commands", Bench.runText(x, "cat a"), -5);
        Bench.same("dropped for commands: code", x.fault(), 7);
        Bench.same("stored anew", Bench.storeText(x, 0, "new"), 1);
        Bench.same("stored anew: bytes", Bench.textOf(x, 0), "new\n");
        int[] no = {-1, 10, 11, Integer.MIN_VALUE, Integer.MAX_VALUE};
        for (int file : no) {
            Bench.throwsIt("drop(" + file + ")", IndexOutOfBoundsException.class, () -> x.drop(file));
        }
    }

    private static void lines() {
        Session x = new Session();
        Bench.storeText(x, 0, "a\nb\nc\n");
        Bench.storeText(x, 1, "");
        Bench.same("lines", x.lines(0), 3);
        Bench.same("no lines", x.lines(1), 0);
        Bench.same("not there", x.lines(2), TextTools.NONE);
        Bench.runText(x, "head -n 2 a");
        Bench.same("lines of OUT", x.lines(10), 2);
        int[] no = {-1, 11, Integer.MIN_VALUE, Integer.MAX_VALUE};
        for (int file : no) {
            Bench.throwsIt("lines(" + file + ")", IndexOutOfBoundsException.class, () -> x.lines(file));
            Bench.throwsIt("length(" + file + ", 0)", IndexOutOfBoundsException.class, () -> x.length(file, 0));
            Bench.throwsIt("byteAt(" + file + ", 0, 0)", IndexOutOfBoundsException.class, () -> x.byteAt(file, 0, 0));
        }
    }

    private static void length() {
        Session x = new Session();
        Bench.storeText(x, 0, "abc\n\nde");
        Bench.same("length", x.length(0, 0), 3);
        Bench.same("length of an empty line", x.length(0, 1), 0);
        Bench.same("length of the last line", x.length(0, 2), 2);
        int[] no = {-1, 3, Integer.MIN_VALUE, Integer.MAX_VALUE};
        for (int line : no) {
            Bench.throwsIt("length(0, " + line + ")", IndexOutOfBoundsException.class, () -> x.length(0, line));
            Bench.throwsIt("byteAt(0, " + line + ", 0)", IndexOutOfBoundsException.class, () -> x.byteAt(0, line, 0));
        }
        Bench.throwsIt("length of a file not there", IndexOutOfBoundsException.class, () -> x.length(1, 0));
        Bench.throwsIt("length in OUT without lines", IndexOutOfBoundsException.class, () -> x.length(10, 0));
        Bench.runText(x, "rev a");
        Bench.same("length in OUT", x.length(10, 2), 2);
        x.drop(0);
        Bench.throwsIt("length of a dropped file", IndexOutOfBoundsException.class, () -> x.length(0, 0));
    }

    private static void byteAt() {
        Session x = new Session();
        Bench.storeText(x, 4, "ab\n\n\u00ff\0");
        Bench.same("byteAt", x.byteAt(4, 0, 1), 'b');
        Bench.same("byteAt: 255", x.byteAt(4, 2, 0), 255);
        Bench.same("byteAt: 0", x.byteAt(4, 2, 1), 0);
        int[] no = {-1, 2, 3, Integer.MIN_VALUE, Integer.MAX_VALUE};
        for (int i : no) {
            Bench.throwsIt("byteAt(4, 0, " + i + ")", IndexOutOfBoundsException.class, () -> x.byteAt(4, 0, i));
        }
        Bench.throwsIt("byteAt in an empty line", IndexOutOfBoundsException.class, () -> x.byteAt(4, 1, 0));
        Bench.throwsIt("byteAt in a file not there", IndexOutOfBoundsException.class, () -> x.byteAt(3, 0, 0));
        Bench.runText(x, "rev e");
        Bench.same("byteAt in OUT", x.byteAt(10, 0, 0), 'b');
        x.drop(4);
        Bench.throwsIt("byteAt in a dropped file", IndexOutOfBoundsException.class, () -> x.byteAt(4, 0, 0));
    }
}

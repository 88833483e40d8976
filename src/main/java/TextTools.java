import java.util.Arrays;

/** Tools for lines of text that are chained by a command; README.md tells how to use it. */
public final class TextTools {
    public static final int NONE = -1;

    private static final int FILES = 10;
    private static final int OUT = 10;
    private static final int TAPE_MOST = 9000;
    private static final int BYTES_FED = 20;
    private static final int LINE_END = 10;
    private static final int TAB = 9;
    private static final int BLANK = 32;

    private byte[] tape = new byte[0];
    private int tapeSize;
    private final Lines[] files = new Lines[FILES + 1];
    private final boolean[] there = new boolean[FILES + 1];
    private final Work work = new Work();
    private final Sorter sorter = new Sorter();
    private final Merger merger = new Merger();
    private final Translator translator = new Translator();

    public TextTools() {
        for (int i = 0; i < files.length; i++) {
            files[i] = new Lines();
        }
        there[OUT] = true;
    }

    public int feed(int a, int b, int c, int d, int e) throws UnsupportedOperationException {
        if (tapeSize > TAPE_MOST - BYTES_FED) {
            throw new UnsupportedOperationException();
        }
        if (tape.length < tapeSize + BYTES_FED) {
            tape = Arrays.copyOf(tape, Math.min(TAPE_MOST, 2 * tape.length + 240));
        }
        feedFour(a);
        feedFour(b);
        feedFour(c);
        feedFour(d);
        feedFour(e);
        return tapeSize;
    }

    public void end(int n) throws IllegalArgumentException {
        if (n < 0 || n > tapeSize) {
            throw new IllegalArgumentException();
        }
        tapeSize = n;
    }

    public int store(int file) throws IndexOutOfBoundsException, UnsupportedOperationException {
        if (file < 0 || file >= FILES) {
            throw new IndexOutOfBoundsException();
        }
        splitTape(work.giving);
        if (work.giving.full) {
            throw new UnsupportedOperationException();
        }
        tapeSize = 0;
        Lines old = files[file];
        files[file] = work.giving;
        work.giving = old;
        there[file] = true;
        return files[file].count;
    }

    public boolean drop(int file) throws IndexOutOfBoundsException {
        if (file < 0 || file >= FILES) {
            throw new IndexOutOfBoundsException();
        }
        boolean was = there[file];
        there[file] = false;
        return was;
    }

    public int run() {
        int size = tapeSize;
        tapeSize = 0;
        work.clearFault();
        work.begin(tape, size);
        Parser.checkQuotes(work);
        int tools = 0;
        while (tools <= size && Parser.readTool(work)) {
            tools++;
        }
        int target = Parser.readTarget(work);
        // The tools are read once more, to be done one by one: so one place for a tool's options is enough.
        work.begin(tape, size);
        for (int n = 0; n < tools && Parser.readTool(work); n++) {
            doTool();
        }
        return work.faultCode == 0 ? keepGiven(target) : -1 - work.faultPlace;
    }

    public int fault() {
        return work.faultCode;
    }

    public int line() {
        return work.faultLine;
    }

    public int side() {
        return work.faultSide;
    }

    public int lines(int file) throws IndexOutOfBoundsException {
        if (file < 0 || file > OUT) {
            throw new IndexOutOfBoundsException();
        }
        return there[file] ? files[file].count : NONE;
    }

    public int length(int file, int line) throws IndexOutOfBoundsException {
        if (!hasLine(file, line)) {
            throw new IndexOutOfBoundsException();
        }
        return files[file].sizeOf(line);
    }

    public int byteAt(int file, int line, int i) throws IndexOutOfBoundsException {
        if (!hasLine(file, line) || i < 0 || i >= files[file].sizeOf(line)) {
            throw new IndexOutOfBoundsException();
        }
        return files[file].at(files[file].startOf(line) + i);
    }

    private boolean hasLine(int file, int line) {
        return file >= 0 && file <= OUT && there[file] && line >= 0 && line < files[file].count;
    }

    private void feedFour(int four) {
        for (int shift = 24; shift >= 0; shift -= 8) {
            if (tapeSize < tape.length) {
                tape[tapeSize++] = (byte) (four >>> shift);
            }
        }
    }

    private void splitTape(Lines to) {
        to.clear();
        for (int i = 0; i < tapeSize && i < tape.length && !to.full; i++) {
            if (tape[i] == LINE_END) {
                to.endLine();
            } else {
                to.put(tape[i] & 255);
            }
        }
        if (to.size > to.opened) {
            to.endLine();
        }
    }

    private int keepGiven(int told) {
        int count = work.given.count;
        int target = told < 0 || told > OUT ? OUT : told;
        Lines old = files[target];
        files[target] = work.given;
        work.given = old;
        there[target] = true;
        if (target != OUT) {
            files[OUT].clear();
        }
        return count;
    }

    private void doTool() {
        if (!takeOperands()) {
            return;
        }
        work.giving.clear();
        switch (work.tool) {
            case CAT: LineTools.cat(work); break;
            case TAC: LineTools.tac(work); break;
            case REV: LineTools.rev(work); break;
            case HEAD: LineTools.head(work); break;
            case TAIL: LineTools.tail(work); break;
            case WC: LineTools.count(work); break;
            case CUT: LineTools.cut(work); break;
            case PASTE: LineTools.paste(work); break;
            case UNIQ: LineTools.uniq(work); break;
            case SORT: sorter.sort(work); break;
            case COMM: merger.comm(work); break;
            case JOIN: merger.join(work); break;
            case TR: translator.translate(work); break;
            default: break;
        }
        if (work.faultCode == 0 && work.giving.full) {
            work.refuse(Work.TOO_MUCH, work.place);
        }
        work.passOn();
    }

    private boolean takeOperands() {
        for (int k = 0; k < work.operandCount && k < work.taken.length; k++) {
            int file = work.operands[k];
            if (file == Work.DASH) {
                work.taken[k] = work.given;
            } else if (file < 0 || file >= FILES || !there[file]) {
                return work.refuse(Work.NOT_THERE, work.operandPlaces[k]);
            } else {
                work.taken[k] = files[file];
            }
        }
        return true;
    }

    /** LINES, one behind the other in one row; behind them stands the line that is not yet ended. */
    private static final class Lines {
        static final int MOST = 300;
        static final int LONGEST = 240;

        private byte[] bytes = new byte[0];
        private int[] stops = new int[0];
        int count;
        int size;
        int opened;
        boolean full;

        void clear() {
            count = 0;
            size = 0;
            opened = 0;
            full = false;
            makeRoom();
        }

        // Room for the longest line is made before it is begun, so that no put has to look for more;
        // and rows grow fourfold, so that what is left behind stays small beside what is in use.
        private void makeRoom() {
            if (count >= MOST) {
                return;
            }
            if (bytes.length < size + LONGEST) {
                bytes = Arrays.copyOf(bytes, Math.min(MOST * LONGEST, 4 * bytes.length + LONGEST));
            }
            if (stops.length <= count) {
                stops = Arrays.copyOf(stops, Math.min(MOST, 4 * stops.length + 8));
            }
        }

        int startOf(int line) {
            return line < 1 || line > count ? 0 : stops[line - 1];
        }

        int stopOf(int line) {
            return line < 0 || line >= count ? 0 : stops[line];
        }

        int sizeOf(int line) {
            return stopOf(line) - startOf(line);
        }

        int at(int i) {
            return i < 0 || i >= size ? 0 : bytes[i] & 255;
        }

        void put(int b) {
            if (count >= MOST || size - opened >= LONGEST || size >= bytes.length) {
                full = true;
                return;
            }
            bytes[size++] = (byte) b;
        }

        void putPiece(Lines from, int start, int stop) {
            int n = stop - start;
            if (start < 0 || n <= 0 || stop > from.size) {
                return;
            }
            if (count >= MOST || size - opened + n > LONGEST || size + n > bytes.length) {
                full = true;
                return;
            }
            System.arraycopy(from.bytes, start, bytes, size, n);
            size += n;
        }

        void endLine() {
            if (full || count >= MOST || count >= stops.length) {
                full = true;
                return;
            }
            stops[count++] = size;
            opened = size;
            makeRoom();
        }

        void putLine(Lines from, int line) {
            putPiece(from, from.startOf(line), from.stopOf(line));
            endLine();
        }

        void putNumber(int n, int width) {
            int power = 100000;
            for (int digits = 6; digits > 1 && power > n; digits--) {
                if (digits <= width) {
                    put(BLANK);
                }
                power /= 10;
            }
            for (; power > 0; power /= 10) {
                put('0' + n / power % 10);
            }
        }

        static int compare(Lines a, int aFrom, int aTo, Lines b, int bFrom, int bTo) {
            byte[] left = a.bytes;
            byte[] right = b.bytes;
            if (aFrom < 0 || aTo > left.length || bFrom < 0 || bTo > right.length) {
                return 0;
            }
            int j = bFrom;
            for (int i = aFrom; i < aTo && j < bTo; i++) {
                if (left[i] != right[j]) {
                    return (left[i] & 255) < (right[j] & 255) ? -1 : 1;
                }
                j++;
            }
            return Integer.compare(aTo - aFrom, bTo - bFrom);
        }
    }

    /** Goes through the parts of a line: fields between bytes, rows of no blanks, or pieces. */
    private static final class Fields {
        static final int ROWS = -1;
        static final int PIECES = -2;
        static final int MOST = Lines.LONGEST + 1;

        private byte[] bytes = new byte[0];
        private int separator;
        private int stop;
        int next;
        int from;
        int to;

        void open(Lines lines, int line, int by) {
            bytes = lines.bytes;
            separator = by;
            next = lines.startOf(line);
            stop = Math.min(lines.stopOf(line), bytes.length);
            from = next;
            to = next;
        }

        boolean step(int times) {
            boolean there = true;
            for (int n = 0; n < times && there; n++) {
                there = separator >= 0 ? stepField() : stepPiece();
            }
            return there;
        }

        // An empty field may stand behind the last separator: then next is stop, and stop + 1 is behind all.
        private boolean stepField() {
            if (next > stop) {
                return false;
            }
            from = next;
            to = next;
            while (to < stop && (bytes[to] & 255) != separator) {
                to++;
            }
            next = to + 1;
            return true;
        }

        private boolean stepPiece() {
            from = next;
            while (next < stop && (bytes[next] == BLANK || bytes[next] == TAB)) {
                next++;
            }
            if (separator == ROWS) {
                from = next;
            }
            while (next < stop && bytes[next] != BLANK && bytes[next] != TAB) {
                next++;
            }
            to = next;
            return from < to;
        }

        static boolean isBlank(int b) {
            return b == BLANK || b == TAB;
        }
    }

    /** The words of a command; their bytes, freed of quotes, stay where they are until begin. */
    private static final class Words {
        static final int WORD = 0;
        static final int PIPE = 1;
        static final int INTO = 2;
        static final int END = 3;

        private byte[] text = new byte[0];
        private int textSize;
        private int next;
        private byte[] bare = new byte[0];
        private int bareSize;
        private boolean plain;
        int kind;
        int place;
        int from;
        int to;

        // It begins as if behind a |, because there, too, a tool's name must stand next.
        void begin(byte[] tape, int size) {
            text = tape;
            textSize = Math.min(size, tape.length);
            next = 0;
            if (bare.length < textSize) {
                bare = new byte[tape.length];
            }
            bareSize = 0;
            kind = PIPE;
            place = 0;
            from = 0;
            to = 0;
        }

        int loneQuote() {
            int open = NONE;
            for (int i = 0; i < textSize; i++) {
                if (text[i] == '\'') {
                    open = open == NONE ? i : NONE;
                }
            }
            return open;
        }

        void advance() {
            while (next < textSize && text[next] == BLANK) {
                next++;
            }
            place = next;
            from = bareSize;
            plain = false;
            kind = kindAtNext();
            if (kind == WORD) {
                readRow();
            } else {
                next = Math.min(next + 1, textSize);
            }
            to = bareSize;
        }

        private int kindAtNext() {
            if (next >= textSize) {
                return END;
            }
            return text[next] == '|' ? PIPE : text[next] == '>' ? INTO : WORD;
        }

        private void readRow() {
            boolean quoted = false;
            for (; next < textSize; next++) {
                int b = text[next];
                if (b == '\'') {
                    quoted = !quoted;
                } else if (!quoted && (b == BLANK || b == '|' || b == '>')) {
                    return;
                } else if (bareSize < bare.length) {
                    plain = bareSize == from ? !quoted : plain;
                    bare[bareSize++] = (byte) b;
                }
            }
        }

        int at(int i) {
            return i < 0 || i >= bareSize ? 0 : bare[i] & 255;
        }

        boolean isOption() {
            return kind == WORD && plain && to - from > 1 && at(from) == '-';
        }

        boolean is(String name) {
            if (to - from != name.length()) {
                return false;
            }
            for (int i = 0; i < name.length(); i++) {
                if (at(from + i) != name.charAt(i)) {
                    return false;
                }
            }
            return true;
        }

        int find(int b, int start, int stop) {
            for (int i = start; i < stop; i++) {
                if (i >= 0 && i < bareSize && bare[i] == b) {
                    return i;
                }
            }
            return stop;
        }

        int number(int start, int stop) {
            if (start < 0 || stop > bareSize || stop - start < 1 || stop - start > 5) {
                return 0;
            }
            int n = 0;
            for (int i = start; i < stop; i++) {
                if (bare[i] < '0' || bare[i] > '9') {
                    return 0;
                }
                n = 10 * n + bare[i] - '0';
            }
            return n;
        }

        int file() {
            if (kind != WORD || to - from != 1) {
                return NONE;
            }
            int file = at(from) - 'a';
            return file >= 0 && file < FILES ? file : NONE;
        }
    }

    /**
     * The tools: their options, what each of these wants behind it, and how many operands they take.
     * Wanted is nothing (-), a number (N), 1 or 2 for a file (F), a byte (C), a LIST (L), what stands between
     * fields (B), a key's fields (K), any text (S), or PARTS (P).
     */
    private enum Tool {
        CAT("cat", "", "", 1, 20),
        TAC("tac", "", "", 0, 1),
        REV("rev", "", "", 0, 1),
        HEAD("head", "n", "N", 0, 1),
        TAIL("tail", "n", "N", 0, 1),
        WC("wc", "lwc", "---", 0, 1),
        CUT("cut", "fdsb", "LC-L", 0, 1),
        PASTE("paste", "sd", "-B", 1, 8),
        UNIQ("uniq", "cduf", "---N", 0, 1),
        SORT("sort", "rnutk", "---CK", 0, 11),
        COMM("comm", "123", "---", 2, 2),
        JOIN("join", "t12aveo", "CNNFFSP", 2, 2),
        TR("tr", "ds", "--", 1, 2);

        static final char UNKNOWN = '?';
        static final char FLAG = '-';
        private static final Tool[] ALL = values();

        private final String title;
        private final String letters;
        private final String wants;
        final int least;
        final int most;

        Tool(String title, String letters, String wants, int least, int most) {
            this.title = title;
            this.letters = letters;
            this.wants = wants;
            this.least = least;
            this.most = most;
        }

        static Tool named(Words words) {
            for (int i = 0; i < ALL.length; i++) {
                if (words.is(ALL[i].title)) {
                    return ALL[i];
                }
            }
            return null;
        }

        char wantOf(int letter) {
            int i = letters.indexOf((char) letter);
            return i < 0 || i >= wants.length() ? UNKNOWN : wants.charAt(i);
        }
    }

    /** The options of one tool; of one that is told again the latest value stays. */
    private static final class Options {
        static final int NOTHING = -1;
        static final int KEY_PART = 0;
        static final int SIDE_STEP = 100000;
        private static final int BAD = -2;
        private static final int GREATEST = 99999;
        private static final int LETTERS = 128;

        private final boolean[] told = new boolean[LETTERS];
        private final int[] value = new int[LETTERS];
        private final boolean[] listed = new boolean[Fields.MOST + 1];
        // More are never reached: 300 lines have 299 places between them.
        private final int[] separators = new int[Lines.MOST];
        private int separatorCount;
        // One more than fit into a line even if all are empty: it is too long then, whatever else was told.
        final int[] parts = new int[Fields.MOST + 1];
        int partCount;
        int keyFirst;
        int keyLast;
        int fillFrom;
        int fillTo;
        private final boolean[] lonely = new boolean[3];

        void clear() {
            for (int i = 0; i < LETTERS; i++) {
                told[i] = false;
            }
            lonely[1] = false;
            lonely[2] = false;
            separatorCount = 0;
            partCount = 0;
            keyFirst = 0;
            keyLast = 0;
            fillFrom = 0;
            fillTo = 0;
        }

        void tell(int letter) {
            if (letter >= 0 && letter < LETTERS) {
                told[letter] = true;
            }
        }

        boolean has(int letter) {
            return letter >= 0 && letter < LETTERS && told[letter];
        }

        int valueOf(int letter, int untold) {
            return has(letter) ? value[letter] : untold;
        }

        boolean isListed(int n) {
            return n > 0 && n < listed.length && listed[n];
        }

        boolean isLonelyGiven(int side) {
            return side > 0 && side < lonely.length && lonely[side];
        }

        int separator(int gap) {
            if (!has('d') || separatorCount < 1 || gap < 0) {
                return TAB;
            }
            int i = gap % separatorCount;
            return i < separators.length ? separators[i] : NOTHING;
        }

        boolean goTogetherInCut() {
            return has('f') ? !has('b') : has('b') && !has('d') && !has('s');
        }

        boolean take(Words words, int letter, char want, int from, int to) {
            tell(letter);
            switch (want) {
                case 'N': return takeNumber(letter, words.number(from, to), GREATEST);
                case 'F': return takeSide(letter, words.number(from, to));
                case 'C': return takeByte(letter, words.at(from), to - from);
                case 'L': return takeList(words, from, to);
                case 'B': return takeSeparators(words, from, to);
                case 'K': return takeKey(words, from, to);
                case 'P': return takeParts(words, from, to);
                default:
                    fillFrom = from;
                    fillTo = to;
                    return true;
            }
        }

        private boolean takeNumber(int letter, int n, int most) {
            if (n < 1 || n > most || letter < 0 || letter >= LETTERS) {
                return false;
            }
            value[letter] = n;
            return true;
        }

        private boolean takeSide(int letter, int n) {
            if (!takeNumber(letter, n, 2)) {
                return false;
            }
            lonely[n] = true;
            return true;
        }

        private boolean takeByte(int letter, int b, int size) {
            if (size != 1 || letter < 0 || letter >= LETTERS) {
                return false;
            }
            value[letter] = b;
            return true;
        }

        private boolean takeList(Words words, int from, int to) {
            for (int i = 0; i < listed.length; i++) {
                listed[i] = false;
            }
            int start = from;
            for (int i = from; i <= to; i++) {
                if (i == to || words.at(i) == ',') {
                    if (!takeListPart(words, start, i)) {
                        return false;
                    }
                    start = i + 1;
                }
            }
            return true;
        }

        private boolean takeListPart(Words words, int from, int to) {
            int dash = words.find('-', from, to);
            if (dash == to) {
                int n = words.number(from, to);
                return markListed(n, n);
            }
            if (to - from == 1) {
                return false;
            }
            int first = dash == from ? 1 : words.number(from, dash);
            int last = dash == to - 1 ? GREATEST : words.number(dash + 1, to);
            return markListed(first, last);
        }

        private boolean markListed(int first, int last) {
            if (first < 1 || last < first) {
                return false;
            }
            for (int n = first; n <= last && n < listed.length; n++) {
                listed[n] = true;
            }
            return true;
        }

        private boolean takeSeparators(Words words, int from, int to) {
            separatorCount = 0;
            for (int i = from; i < to; i++) {
                int b = words.at(i);
                if (b == '\\') {
                    i++;
                    b = i < to ? behindBackslash(words.at(i)) : BAD;
                }
                if (b == BAD) {
                    return false;
                }
                if (separatorCount < separators.length) {
                    separators[separatorCount] = b;
                }
                separatorCount++;
            }
            return separatorCount > 0;
        }

        private static int behindBackslash(int b) {
            switch (b) {
                case '0': return NOTHING;
                case 'n': return BLANK;
                case 't': return TAB;
                case '\\': return b;
                default: return BAD;
            }
        }

        private boolean takeKey(Words words, int from, int to) {
            int comma = words.find(',', from, to);
            keyFirst = words.number(from, comma);
            keyLast = comma == to ? 0 : words.number(comma + 1, to);
            return keyFirst > 0 && (comma == to || keyLast >= keyFirst);
        }

        private boolean takeParts(Words words, int from, int to) {
            partCount = 0;
            int start = from;
            for (int i = from; i <= to; i++) {
                if (i == to || words.at(i) == ',') {
                    int part = partOf(words, start, i);
                    if (part == BAD) {
                        return false;
                    }
                    if (partCount < parts.length) {
                        parts[partCount++] = part;
                    }
                    start = i + 1;
                }
            }
            return true;
        }

        private static int partOf(Words words, int from, int to) {
            int first = words.at(from);
            if (to - from == 1 && first == '0') {
                return KEY_PART;
            }
            if (to - from < 3 || first != '1' && first != '2' || words.at(from + 1) != '.') {
                return BAD;
            }
            int n = words.number(from + 2, to);
            return n < 1 ? BAD : (first - '0') * SIDE_STEP + n;
        }
    }

    /** A command at work: the tool that was read last, what it takes and gives, and the fault. */
    private static final class Work {
        static final int LONE_QUOTE = 1;
        static final int FORM = 2;
        static final int NO_TOOL = 3;
        static final int NO_OPTION = 4;
        static final int BAD_VALUE = 5;
        static final int BAD_OPERANDS = 6;
        static final int NOT_THERE = 7;
        static final int NOT_SORTED = 8;
        static final int TOO_MUCH = 9;
        static final int DASH = 10;
        private static final int MOST_OPERANDS = 20;

        final Words words = new Words();
        final Options options = new Options();
        final Fields fields = new Fields();
        Tool tool = Tool.CAT;
        int place;
        private int toolCount;
        final int[] operands = new int[MOST_OPERANDS];
        final int[] operandPlaces = new int[MOST_OPERANDS];
        int operandCount;
        final int[] setFrom = new int[2];
        final int[] setTo = new int[2];
        int setCount;
        final Lines[] taken = new Lines[MOST_OPERANDS];
        Lines given = new Lines();
        Lines giving = new Lines();
        int faultCode;
        int faultPlace;
        int faultLine;
        int faultSide;

        Work() {
            for (int k = 0; k < taken.length; k++) {
                taken[k] = given;
            }
        }

        void begin(byte[] tape, int size) {
            words.begin(tape, size);
            toolCount = 0;
        }

        void clearFault() {
            faultCode = 0;
            faultPlace = 0;
            faultLine = 0;
            faultSide = 0;
        }

        boolean refuse(int code, int at) {
            faultCode = code;
            faultPlace = at;
            return false;
        }

        void refuseUnsorted(int line, int side) {
            faultLine = line;
            faultSide = side;
            refuse(NOT_SORTED, place);
        }

        void beginTool(Tool named) {
            tool = named;
            place = words.place;
            toolCount++;
            options.clear();
            operandCount = 0;
            setCount = 0;
        }

        boolean isFirst() {
            return toolCount <= 1;
        }

        boolean isDashTold() {
            for (int k = 0; k < operandCount && k < operands.length; k++) {
                if (operands[k] == DASH) {
                    return true;
                }
            }
            return false;
        }

        void addOperand(int file, int at) {
            if (operandCount < operands.length) {
                operands[operandCount] = file;
                operandPlaces[operandCount] = at;
                operandCount++;
            }
        }

        void addSet(int from, int to) {
            if (setCount < setFrom.length) {
                setFrom[setCount] = from;
                setTo[setCount] = to;
                setCount++;
            }
        }

        void passOn() {
            Lines old = given;
            given = giving;
            giving = old;
        }
    }

    /** Reads a command tool by tool, and finds the faults of its words. */
    private static final class Parser {

        static void checkQuotes(Work work) {
            int lone = work.words.loneQuote();
            if (lone != NONE) {
                work.refuse(Work.LONE_QUOTE, lone);
            }
        }

        static boolean readTool(Work work) {
            Words words = work.words;
            if (work.faultCode != 0 || words.kind != Words.PIPE) {
                return false;
            }
            words.advance();
            if (words.kind != Words.WORD) {
                return work.refuse(Work.FORM, words.place);
            }
            Tool tool = Tool.named(words);
            if (tool == null) {
                return work.refuse(Work.NO_TOOL, words.place);
            }
            work.beginTool(tool);
            words.advance();
            boolean good = true;
            for (int n = 0; good && n < TAPE_MOST && words.isOption(); n++) {
                good = readOptionWord(work);
            }
            return good && readOperands(work) && checkWhole(work);
        }

        static int readTarget(Work work) {
            Words words = work.words;
            if (work.faultCode != 0) {
                return NONE;
            }
            int target = OUT;
            if (words.kind == Words.INTO) {
                words.advance();
                target = words.file();
                if (target != NONE) {
                    words.advance();
                }
            }
            if (target == NONE || words.kind != Words.END) {
                work.refuse(Work.FORM, words.place);
                return NONE;
            }
            return target;
        }

        private static boolean readOptionWord(Work work) {
            Words words = work.words;
            for (int i = words.from + 1; i < words.to; i++) {
                int letter = words.at(i);
                char want = work.tool.wantOf(letter);
                if (want == Tool.UNKNOWN) {
                    return work.refuse(Work.NO_OPTION, words.place);
                }
                if (want != Tool.FLAG) {
                    return readValue(work, letter, want, i + 1);
                }
                work.options.tell(letter);
            }
            words.advance();
            return true;
        }

        private static boolean readValue(Work work, int letter, char want, int rest) {
            Words words = work.words;
            int from = rest;
            if (rest >= words.to) {
                words.advance();
                from = words.from;
            }
            if (words.kind != Words.WORD || !work.options.take(words, letter, want, from, words.to)) {
                return work.refuse(Work.BAD_VALUE, words.place);
            }
            words.advance();
            return true;
        }

        private static boolean readOperands(Work work) {
            Words words = work.words;
            boolean good = true;
            for (int n = 0; good && n < TAPE_MOST && words.kind == Words.WORD; n++) {
                good = work.tool == Tool.TR ? readSet(work) : readOperand(work);
                if (good) {
                    words.advance();
                }
            }
            return good;
        }

        private static boolean readOperand(Work work) {
            Words words = work.words;
            int file = words.is("-") ? Work.DASH : words.file();
            boolean strayDash = file == Work.DASH && (work.isFirst() || work.isDashTold());
            if (file == NONE || strayDash || work.operandCount >= work.tool.most) {
                return work.refuse(Work.BAD_OPERANDS, words.place);
            }
            work.addOperand(file, words.place);
            return true;
        }

        private static boolean readSet(Work work) {
            Words words = work.words;
            boolean goesOnly = work.options.has('d') && !work.options.has('s');
            if (work.setCount >= (goesOnly ? 1 : work.tool.most)) {
                return work.refuse(Work.BAD_OPERANDS, words.place);
            }
            if (!Translator.isSet(words, words.from, words.to)) {
                return work.refuse(Work.BAD_VALUE, words.place);
            }
            work.addSet(words.from, words.to);
            return true;
        }

        private static boolean checkWhole(Work work) {
            if (!isWhole(work)) {
                return work.refuse(Work.BAD_OPERANDS, work.place);
            }
            if (work.operandCount == 0) {
                work.addOperand(Work.DASH, work.place);
            }
            return true;
        }

        private static boolean isWhole(Work work) {
            Options options = work.options;
            if (work.operandCount == 0 && work.isFirst()) {
                return false;
            }
            if (work.tool == Tool.TR) {
                return work.setCount >= (options.has('d') == options.has('s') ? 2 : 1);
            }
            return work.operandCount >= work.tool.least
                && (work.tool != Tool.CUT || options.goTogetherInCut());
        }
    }

    /** The tools that go through lines as they come. */
    private static final class LineTools {

        static void cat(Work work) {
            for (int k = 0; k < work.operandCount && k < work.taken.length; k++) {
                putLines(work, work.taken[k], 0, work.taken[k].count);
            }
        }

        static void tac(Work work) {
            for (int i = work.taken[0].count - 1; i >= 0; i--) {
                work.giving.putLine(work.taken[0], i);
            }
        }

        static void rev(Work work) {
            Lines in = work.taken[0];
            for (int i = 0; i < in.count; i++) {
                for (int p = in.stopOf(i) - 1; p >= in.startOf(i); p--) {
                    work.giving.put(in.at(p));
                }
                work.giving.endLine();
            }
        }

        static void head(Work work) {
            int n = work.options.valueOf('n', 10);
            putLines(work, work.taken[0], 0, Math.min(n, work.taken[0].count));
        }

        static void tail(Work work) {
            int n = work.options.valueOf('n', 10);
            putLines(work, work.taken[0], Math.max(0, work.taken[0].count - n), work.taken[0].count);
        }

        private static void putLines(Work work, Lines in, int from, int to) {
            for (int i = from; i < to && !work.giving.full; i++) {
                work.giving.putLine(in, i);
            }
        }

        static void count(Work work) {
            Lines in = work.taken[0];
            Options options = work.options;
            boolean all = !options.has('l') && !options.has('w') && !options.has('c');
            if (all || options.has('l')) {
                putCount(work.giving, in.count);
            }
            if (all || options.has('w')) {
                putCount(work.giving, countWords(work, in));
            }
            if (all || options.has('c')) {
                putCount(work.giving, in.size + in.count);
            }
            work.giving.endLine();
        }

        private static void putCount(Lines out, int n) {
            if (out.size > out.opened) {
                out.put(BLANK);
            }
            out.putNumber(n, 1);
        }

        private static int countWords(Work work, Lines in) {
            int words = 0;
            for (int i = 0; i < in.count; i++) {
                work.fields.open(in, i, Fields.ROWS);
                for (int n = 0; n < Fields.MOST && work.fields.step(1); n++) {
                    words++;
                }
            }
            return words;
        }

        static void cut(Work work) {
            boolean byFields = work.options.has('f');
            for (int i = 0; i < work.taken[0].count; i++) {
                if (byFields) {
                    cutFields(work, work.taken[0], i);
                } else {
                    cutBytes(work, work.taken[0], i);
                }
            }
        }

        private static void cutBytes(Work work, Lines in, int line) {
            int start = in.startOf(line);
            for (int n = 1; n <= in.sizeOf(line); n++) {
                if (work.options.isListed(n)) {
                    work.giving.put(in.at(start + n - 1));
                }
            }
            work.giving.endLine();
        }

        private static void cutFields(Work work, Lines in, int line) {
            Fields fields = work.fields;
            int separator = work.options.valueOf('d', TAB);
            fields.open(in, line, separator);
            fields.step(1);
            if (fields.to == in.stopOf(line)) {
                if (!work.options.has('s')) {
                    work.giving.putLine(in, line);
                }
                return;
            }
            boolean some = false;
            boolean more = true;
            for (int n = 1; n <= Fields.MOST && more; n++) {
                if (work.options.isListed(n)) {
                    if (some) {
                        work.giving.put(separator);
                    }
                    work.giving.putPiece(in, fields.from, fields.to);
                    some = true;
                }
                more = fields.step(1);
            }
            work.giving.endLine();
        }

        static void paste(Work work) {
            if (work.options.has('s')) {
                for (int k = 0; k < work.operandCount && k < work.taken.length; k++) {
                    pasteLines(work, work.taken[k]);
                }
                return;
            }
            int rows = 0;
            for (int k = 0; k < work.operandCount && k < work.taken.length; k++) {
                rows = Math.max(rows, work.taken[k].count);
            }
            for (int i = 0; i < rows && !work.giving.full; i++) {
                pasteRow(work, i);
            }
        }

        private static void pasteLines(Work work, Lines in) {
            for (int i = 0; i < in.count && !work.giving.full; i++) {
                putSeparator(work, i - 1);
                work.giving.putPiece(in, in.startOf(i), in.stopOf(i));
            }
            work.giving.endLine();
        }

        private static void pasteRow(Work work, int i) {
            for (int k = 0; k < work.operandCount && k < work.taken.length; k++) {
                Lines in = work.taken[k];
                putSeparator(work, k - 1);
                work.giving.putPiece(in, in.startOf(i), in.stopOf(i));
            }
            work.giving.endLine();
        }

        private static void putSeparator(Work work, int gap) {
            int b = gap < 0 ? Options.NOTHING : work.options.separator(gap);
            if (b != Options.NOTHING) {
                work.giving.put(b);
            }
        }

        static void uniq(Work work) {
            Lines in = work.taken[0];
            int first = 0;
            int firstRest = in.count > 0 ? restOf(work, in, 0) : 0;
            for (int i = 1; i <= in.count; i++) {
                int rest = i < in.count ? restOf(work, in, i) : 0;
                boolean alike = i < in.count
                    && Lines.compare(in, firstRest, in.stopOf(first), in, rest, in.stopOf(i)) == 0;
                if (!alike) {
                    putAlike(work, in, first, i - first);
                    first = i;
                    firstRest = rest;
                }
            }
        }

        private static int restOf(Work work, Lines in, int line) {
            work.fields.open(in, line, Fields.PIECES);
            work.fields.step(work.options.valueOf('f', 0));
            return work.fields.next;
        }

        private static void putAlike(Work work, Lines in, int line, int times) {
            if (work.options.has(times == 1 ? 'd' : 'u')) {
                return;
            }
            if (work.options.has('c')) {
                work.giving.putNumber(times, 4);
                work.giving.put(BLANK);
            }
            work.giving.putLine(in, line);
        }
    }

    /** Sorts references to lines, because up to eleven files may come and few lines be left of them. */
    private static final class Sorter {
        private int[] owner = new int[0];
        private int[] number = new int[0];
        private int[] sign = new int[0];
        private int[] keyFrom = new int[0];
        private int[] keyPoint = new int[0];
        private int[] keyTo = new int[0];
        private int[] order = new int[0];
        private int[] merged = new int[0];
        private int count;

        void sort(Work work) {
            collect(work);
            for (int width = 1; width < count; width *= 2) {
                for (int at = 0; at < count; at += 2 * width) {
                    merge(work, at, Math.min(at + width, count), Math.min(at + 2 * width, count));
                }
                int[] old = order;
                order = merged;
                merged = old;
            }
            give(work);
        }

        private void collect(Work work) {
            int total = 0;
            for (int k = 0; k < work.operandCount && k < work.taken.length; k++) {
                total += work.taken[k].count;
            }
            makeRoom(total);
            count = 0;
            for (int k = 0; k < work.operandCount && k < work.taken.length; k++) {
                Lines in = work.taken[k];
                for (int i = 0; i < in.count && count < order.length; i++) {
                    owner[count] = k;
                    number[count] = i;
                    order[count] = count;
                    findKey(work, in, i);
                    count++;
                }
            }
        }

        private void makeRoom(int total) {
            if (total <= order.length) {
                return;
            }
            int room = Math.max(total, 2 * order.length);
            owner = new int[room];
            number = new int[room];
            sign = new int[room];
            keyFrom = new int[room];
            keyPoint = new int[room];
            keyTo = new int[room];
            order = new int[room];
            merged = new int[room];
        }

        private void findKey(Work work, Lines in, int line) {
            Options options = work.options;
            int from = in.startOf(line);
            int to = in.stopOf(line);
            if (options.has('k')) {
                work.fields.open(in, line, options.valueOf('t', Fields.PIECES));
                boolean there = work.fields.step(options.keyFirst);
                from = there ? work.fields.from : to;
                if (there && options.keyLast > 0 && work.fields.step(options.keyLast - options.keyFirst)) {
                    to = work.fields.to;
                }
            }
            keyFrom[count] = from;
            keyTo[count] = to;
            if (options.has('n')) {
                findNumber(in, from, to);
            }
        }

        // What decides is kept alone: the sign, digits without 0s before, and behind the point without 0s at the end.
        private void findNumber(Lines in, int from, int to) {
            int at = from;
            while (at < to && Fields.isBlank(in.at(at))) {
                at++;
            }
            boolean negative = at < to && in.at(at) == '-';
            int first = negative ? at + 1 : at;
            int point = skipDigits(in, first, to);
            int last = point;
            if (point > first && point < to && in.at(point) == '.') {
                last = skipDigits(in, point + 1, to);
            }
            while (last > point && (in.at(last - 1) == '0' || last == point + 1)) {
                last--;
            }
            while (first < point && in.at(first) == '0') {
                first++;
            }
            keyFrom[count] = first;
            keyPoint[count] = point;
            keyTo[count] = last;
            sign[count] = first >= last ? 0 : negative ? -1 : 1;
        }

        private static int skipDigits(Lines in, int from, int to) {
            int at = from;
            while (at < to && in.at(at) >= '0' && in.at(at) <= '9') {
                at++;
            }
            return at;
        }

        private void merge(Work work, int left, int middle, int right) {
            int i = left;
            int j = middle;
            for (int at = left; at < right && at < merged.length; at++) {
                if (i < middle && (j >= right || compare(work, order[i], order[j]) <= 0)) {
                    merged[at] = order[i++];
                } else if (j < right) {
                    merged[at] = order[j++];
                }
            }
        }

        private int compare(Work work, int p, int q) {
            int c = compareKeys(work, p, q);
            if (c == 0 && !work.options.has('u')) {
                Lines a = work.taken[owner[p]];
                Lines b = work.taken[owner[q]];
                c = Lines.compare(a, a.startOf(number[p]), a.stopOf(number[p]),
                    b, b.startOf(number[q]), b.stopOf(number[q]));
            }
            return work.options.has('r') ? -c : c;
        }

        private int compareKeys(Work work, int p, int q) {
            Lines a = work.taken[owner[p]];
            Lines b = work.taken[owner[q]];
            if (!work.options.has('n')) {
                return Lines.compare(a, keyFrom[p], keyTo[p], b, keyFrom[q], keyTo[q]);
            }
            if (sign[p] != sign[q] || sign[p] == 0) {
                return Integer.compare(sign[p], sign[q]);
            }
            int c = Integer.compare(keyPoint[p] - keyFrom[p], keyPoint[q] - keyFrom[q]);
            if (c == 0) {
                c = Lines.compare(a, keyFrom[p], keyTo[p], b, keyFrom[q], keyTo[q]);
            }
            return sign[p] * c;
        }

        private void give(Work work) {
            boolean once = work.options.has('u');
            for (int i = 0; i < count && !work.giving.full; i++) {
                if (!once || i == 0 || compareKeys(work, order[i - 1], order[i]) != 0) {
                    work.giving.putLine(work.taken[owner[order[i]]], number[order[i]]);
                }
            }
        }
    }

    /** comm and join: both go through two operands at once, by keys that must not fall. */
    private static final class Merger {
        private static final int NO_LINE = -1;
        private static final int WHOLE_LINE = 0;

        private final int[][] keyFrom = new int[2][Lines.MOST];
        private final int[][] keyTo = new int[2][Lines.MOST];

        void comm(Work work) {
            findKeys(work, 0, WHOLE_LINE);
            findKeys(work, 1, WHOLE_LINE);
            if (!isSorted(work, 0) || !isSorted(work, 1)) {
                return;
            }
            int i = 0;
            int j = 0;
            for (int n = 0; n < 2 * Lines.MOST && hasMore(work, i, j); n++) {
                int c = compare(work, i, j);
                if (c > 0) {
                    putColumn(work, 2, j);
                } else {
                    putColumn(work, c < 0 ? 1 : 3, i);
                }
                i += c <= 0 ? 1 : 0;
                j += c >= 0 ? 1 : 0;
            }
        }

        private void putColumn(Work work, int column, int line) {
            Options options = work.options;
            if (options.has('0' + column)) {
                return;
            }
            if (column > 1 && !options.has('1')) {
                work.giving.put(TAB);
            }
            if (column > 2 && !options.has('2')) {
                work.giving.put(TAB);
            }
            work.giving.putLine(work.taken[column == 2 ? 1 : 0], line);
        }

        void join(Work work) {
            findKeys(work, 0, work.options.valueOf('1', 1));
            findKeys(work, 1, work.options.valueOf('2', 1));
            if (!isSorted(work, 0) || !isSorted(work, 1)) {
                return;
            }
            int i = 0;
            int j = 0;
            for (int n = 0; n < 2 * Lines.MOST && hasMore(work, i, j); n++) {
                int c = compare(work, i, j);
                int iEnd = c > 0 ? i : behindAlike(work, 0, i);
                int jEnd = c < 0 ? j : behindAlike(work, 1, j);
                if (c == 0 && !work.options.has('v')) {
                    putGroup(work, i, iEnd, j, jEnd);
                } else if (c < 0 && work.options.isLonelyGiven(1)) {
                    putGroup(work, i, iEnd, NO_LINE, NO_LINE + 1);
                } else if (c > 0 && work.options.isLonelyGiven(2)) {
                    putGroup(work, NO_LINE, NO_LINE + 1, j, jEnd);
                }
                i = iEnd;
                j = jEnd;
            }
        }

        private static boolean hasMore(Work work, int i, int j) {
            return !work.giving.full && (i < work.taken[0].count || j < work.taken[1].count);
        }

        private void findKeys(Work work, int side, int field) {
            Lines in = work.taken[side];
            int separator = work.options.valueOf('t', Fields.ROWS);
            for (int i = 0; i < in.count && i < Lines.MOST; i++) {
                int from = in.startOf(i);
                int to = in.stopOf(i);
                if (field != WHOLE_LINE) {
                    work.fields.open(in, i, separator);
                    boolean there = work.fields.step(field);
                    from = there ? work.fields.from : to;
                    to = there ? work.fields.to : to;
                }
                keyFrom[side][i] = from;
                keyTo[side][i] = to;
            }
        }

        private boolean isSorted(Work work, int side) {
            for (int i = 1; i < work.taken[side].count; i++) {
                if (compareAt(work, side, i - 1, side, i) > 0) {
                    work.refuseUnsorted(i + 1, side + 1);
                    return false;
                }
            }
            return true;
        }

        private int compareAt(Work work, int sideA, int i, int sideB, int j) {
            if (i < 0 || i >= Lines.MOST || j < 0 || j >= Lines.MOST) {
                return 0;
            }
            return Lines.compare(work.taken[sideA], keyFrom[sideA][i], keyTo[sideA][i],
                work.taken[sideB], keyFrom[sideB][j], keyTo[sideB][j]);
        }

        private int compare(Work work, int i, int j) {
            if (i >= work.taken[0].count) {
                return 1;
            }
            return j >= work.taken[1].count ? -1 : compareAt(work, 0, i, 1, j);
        }

        private int behindAlike(Work work, int side, int line) {
            int end = line + 1;
            while (end < work.taken[side].count && compareAt(work, side, line, side, end) == 0) {
                end++;
            }
            return end;
        }

        private void putGroup(Work work, int i, int iEnd, int j, int jEnd) {
            for (int x = i; x < iEnd; x++) {
                for (int y = j; y < jEnd && !work.giving.full; y++) {
                    if (work.options.has('o')) {
                        putParts(work, x, y);
                    } else {
                        putKey(work, x, y);
                        putOthers(work, 0, x);
                        putOthers(work, 1, y);
                    }
                    work.giving.endLine();
                }
            }
        }

        private void putKey(Work work, int i, int j) {
            int side = i == NO_LINE ? 1 : 0;
            int line = i == NO_LINE ? j : i;
            if (line >= 0 && line < Lines.MOST) {
                work.giving.putPiece(work.taken[side], keyFrom[side][line], keyTo[side][line]);
            }
        }

        private void putOthers(Work work, int side, int line) {
            if (line == NO_LINE) {
                return;
            }
            int key = work.options.valueOf('1' + side, 1);
            Fields fields = work.fields;
            fields.open(work.taken[side], line, work.options.valueOf('t', Fields.ROWS));
            for (int n = 1; n <= Fields.MOST && fields.step(1); n++) {
                if (n != key) {
                    work.giving.put(work.options.valueOf('t', BLANK));
                    work.giving.putPiece(work.taken[side], fields.from, fields.to);
                }
            }
        }

        private void putParts(Work work, int i, int j) {
            Options options = work.options;
            for (int k = 0; k < options.partCount && k < options.parts.length; k++) {
                if (k > 0) {
                    work.giving.put(options.valueOf('t', BLANK));
                }
                int part = options.parts[k];
                if (part == Options.KEY_PART) {
                    putKey(work, i, j);
                } else if (part < 2 * Options.SIDE_STEP) {
                    putField(work, 0, i, part % Options.SIDE_STEP);
                } else {
                    putField(work, 1, j, part % Options.SIDE_STEP);
                }
            }
        }

        private void putField(Work work, int side, int line, int n) {
            if (line != NO_LINE) {
                work.fields.open(work.taken[side], line, work.options.valueOf('t', Fields.ROWS));
                if (work.fields.step(n)) {
                    work.giving.putPiece(work.taken[side], work.fields.from, work.fields.to);
                    return;
                }
            }
            for (int p = work.options.fillFrom; p < work.options.fillTo && !work.giving.full; p++) {
                work.giving.put(work.words.at(p));
            }
        }
    }

    /** tr: what each byte becomes is found once, before the lines are gone through. */
    private static final class Translator {
        private static final int GOES = -1;
        private static final int BYTES = 256;

        private final int[] becomes = new int[BYTES];
        private final int[] places = new int[BYTES];
        private final boolean[] squeezed = new boolean[BYTES];

        void translate(Work work) {
            prepare(work);
            Lines in = work.taken[0];
            for (int i = 0; i < in.count; i++) {
                int last = NONE;
                for (int p = in.startOf(i); p < in.stopOf(i); p++) {
                    int b = becomes[in.at(p)];
                    if (b != GOES && (b != last || !squeezed[b & 255])) {
                        work.giving.put(b);
                        last = b;
                    }
                }
                work.giving.endLine();
            }
        }

        private void prepare(Work work) {
            findPlaces(work.words, work.setFrom[0], work.setTo[0]);
            boolean goes = work.options.has('d');
            for (int b = 0; b < BYTES; b++) {
                becomes[b] = b;
                if (places[b] != NONE && goes) {
                    becomes[b] = GOES;
                } else if (places[b] != NONE && work.setCount > 1) {
                    becomes[b] = byteIn(work.words, work.setFrom[1], work.setTo[1], places[b]);
                }
            }
            int told = work.setCount > 1 ? 1 : 0;
            findPlaces(work.words, work.setFrom[told], work.setTo[told]);
            for (int b = 0; b < BYTES; b++) {
                squeezed[b] = work.options.has('s') && places[b] != NONE;
            }
        }

        private void findPlaces(Words words, int from, int to) {
            Arrays.fill(places, NONE);
            int place = 0;
            for (int i = from; i < to; i++) {
                int high = highOf(words, i, to);
                for (int b = words.at(i); b <= high && b < BYTES; b++) {
                    places[b] = place;
                    place++;
                }
                i += isSpan(words, i, to) ? 2 : 0;
            }
        }

        private static int byteIn(Words words, int from, int to, int place) {
            int left = place;
            int high = 0;
            for (int i = from; i < to; i++) {
                int low = words.at(i);
                high = highOf(words, i, to);
                if (left <= high - low) {
                    return low + left;
                }
                left -= high - low + 1;
                i += isSpan(words, i, to) ? 2 : 0;
            }
            return high;
        }

        static boolean isSet(Words words, int from, int to) {
            for (int i = from; i < to; i++) {
                if (words.at(i) > highOf(words, i, to)) {
                    return false;
                }
                i += isSpan(words, i, to) ? 2 : 0;
            }
            return from < to;
        }

        private static boolean isSpan(Words words, int i, int to) {
            return i + 2 < to && words.at(i + 1) == '-';
        }

        private static int highOf(Words words, int i, int to) {
            return words.at(isSpan(words, i, to) ? i + 2 : i);
        }
    }
}

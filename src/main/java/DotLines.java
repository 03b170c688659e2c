import java.util.Arrays;

/**
 * Lines of black and white dots as bits: each line by what has changed against the one above, and where
 * that does not serve by the lengths of its runs; and back again, with every fault told.
 */
public final class DotLines {
    public static final int NONE = -1;

    private static final int MOST_DOTS = 10000;

    private final int width;
    private final Coder coder;
    private final Reader reader;

    public DotLines(int width) {
        this.width = Math.max(1, Math.min(width, MOST_DOTS));
        coder = new Coder(this.width);
        reader = new Reader(this.width);
    }

    public boolean paint(int from, int n, boolean black) {
        if (n < 1 || from < 0 || from >= width || n > width - from) {
            return false;
        }
        coder.made.fill(from, from + n, black);
        return true;
    }

    public int code() throws IllegalStateException {
        int bits = coder.addLine();
        if (bits == NONE) {
            throw new IllegalStateException("the output is closed or has no room for the line");
        }
        return bits;
    }

    public int close() throws IllegalStateException {
        int bytes = coder.finish();
        if (bytes == NONE) {
            throw new IllegalStateException("the output is closed or has no room for its end");
        }
        return bytes;
    }

    public void clear() {
        coder.begin();
    }

    public long out(int k) {
        return coder.output.part(k);
    }

    public boolean give(long part, int n) {
        return n >= 1 && n <= 8 && reader.input.add(part, 8 * n);
    }

    public int turn(int n) throws IllegalArgumentException {
        if (n < 0 || n > coder.output.bytes()) {
            throw new IllegalArgumentException("the output has not so many bytes");
        }
        reader.input.become(coder.output, n);
        reader.begin();
        return reader.input.bytes();
    }

    public void wipe() {
        reader.input.cut(0);
        reader.begin();
    }

    public void rewind() {
        reader.begin();
    }

    public int read() {
        return reader.nextLine();
    }

    public boolean black(int x) throws IndexOutOfBoundsException {
        if (x < 0 || x >= width) {
            throw new IndexOutOfBoundsException("no dot of a line");
        }
        return (reader.above.part(x / 64) << x % 64) < 0;
    }

    public long dots(int k) {
        return reader.above.part(k);
    }

    public int change(int i) {
        int count = reader.above.changeCount;
        if (i == -1) {
            return count;
        }
        return i >= 0 && i < count ? reader.above.placeOf(i) : NONE;
    }

    public int look(int which) {
        switch (which) {
            case 0: return width;
            case 1: return coder.output.count;
            case 2: return coder.closed ? 1 : 0;
            case 3: return reader.input.bytes();
            case 4: return reader.lines;
            case 5: return coder.lines;
            case 6: return coder.passes;
            case 7: return coder.shifts;
            case 8: return coder.acrosses;
            case 9: return reader.at;
            default: return NONE;
        }
    }

    /** A row of bits that grows at its end. All behind its end is 0: new bits are or-ed in, parts given as they are. */
    private static final class Bits {
        static final int MOST = 524288;

        private final long[] parts = new long[MOST / 64];
        int count;

        int bytes() {
            return (count + 7) / 8;
        }

        long part(int k) {
            return k < 0 || k >= parts.length ? 0 : parts[k];
        }

        int bit(int i) {
            int k = i >> 6;
            return k < 0 || k >= parts.length ? 0 : (int) (parts[k] >>> (63 - (i & 63))) & 1;
        }

        /** Puts the n lowest bits of value (1 to 64) behind the row: false, and nothing done, if there is no room. */
        boolean add(long value, int n) {
            int k = count >> 6;
            if (n < 1 || n > 64 || n > MOST - count || k < 0 || k >= parts.length) {
                return false;
            }
            long bits = value & (-1L >>> (64 - n));
            int room = 64 - (count & 63);
            if (n <= room) {
                parts[k] |= bits << (room - n);
            } else {
                parts[k] |= bits >>> (n - room);
                if (k + 1 < parts.length) {
                    parts[k + 1] |= bits << (64 - (n - room));
                }
            }
            count += n;
            return true;
        }

        /** Shortens the row to its first bits. */
        void cut(int to) {
            if (to < 0 || to >= count) {
                return;
            }
            int first = to >> 6;
            for (int k = first; k < parts.length && k <= (count - 1) >> 6; k++) {
                parts[k] &= k == first ? ~(-1L >>> (to & 63)) : 0;
            }
            count = to;
        }

        /** Becomes a copy of the other row's bytes without the first ones, of which it must have that many. */
        void become(Bits other, int without) {
            cut(0);
            int first = without / 8;
            int size = 8 * (other.bytes() - without);
            add(other.part(first), 64 - 8 * (without % 8));
            for (int k = first + 1; k < parts.length && count < size; k++) {
                add(other.part(k), 64);
            }
            cut(size);
        }
    }

    /** A line's dots, and its changes as they were when they were last looked for. */
    private static final class Line {
        private final int width;
        private final long[] parts;
        private final int[] changes;
        int changeCount;

        Line(int width) {
            this.width = width;
            parts = new long[(width + 63) / 64];
            changes = new int[width];
        }

        void whiten() {
            Arrays.fill(parts, 0);
            changeCount = 0;
        }

        long part(int k) {
            return k < 0 || k >= parts.length ? 0 : parts[k];
        }

        /** Paints the dots from a place on up to another one, which stays as it is. */
        void fill(int from, int to, boolean black) {
            if (from < 0 || from >= to || to > width) {
                return;
            }
            for (int k = from >> 6; k < parts.length && k <= (to - 1) >> 6; k++) {
                int first = Math.max(from - 64 * k, 0);
                int last = Math.min(to - 1 - 64 * k, 63);
                long mask = (-1L >>> first) & (-1L << (63 - last));
                parts[k] = black ? parts[k] | mask : parts[k] & ~mask;
            }
        }

        void findChanges() {
            changeCount = 0;
            long left = 0;
            for (int k = 0; k < parts.length; k++) {
                long dots = parts[k];
                addChanges(64 * k, dots ^ (dots >>> 1 | left << 63));
                left = dots & 1;
            }
        }

        private void addChanges(int from, long changed) {
            long more = changed;
            for (int n = Long.bitCount(changed); n > 0; n--) {
                int x = Long.numberOfLeadingZeros(more);
                // The part goes on in white behind the last dot, which makes no change of a dot.
                if (from + x < width && changeCount < changes.length) {
                    changes[changeCount] = from + x;
                    changeCount++;
                }
                more &= ~(1L << (63 - x));
            }
        }

        /** The place of a change by its number: the WIDTH behind the last one. */
        int placeOf(int i) {
            return i < 0 || i >= changeCount || i >= changes.length ? width : changes[i];
        }

        /** The number of the first change right of a, where all those ahead of number i are known not to be. */
        int firstRightOf(int a, int i) {
            int found = i;
            while (found < changeCount && placeOf(found) <= a) {
                found++;
            }
            return found;
        }
    }

    /** Where coding or reading stands in a line: a, the COLOUR, b1 and b2. */
    private static final class Spot {
        private Line above;
        private int firstRight;
        int a;
        boolean inBlack;
        int b1;
        int b2;

        Spot(Line above) {
            this.above = above;
        }

        void begin(Line above) {
            this.above = above;
            firstRight = 0;
            move(-1, false);
        }

        /** Goes to a place right of a. */
        void move(int to, boolean black) {
            a = to;
            inBlack = black;
            firstRight = above.firstRightOf(to, firstRight);
            // Changes to black have even numbers, those to white odd ones.
            boolean toWhite = (firstRight & 1) == 1;
            int i = toWhite == black ? firstRight : firstRight + 1;
            b1 = above.placeOf(i);
            b2 = above.placeOf(i + 1);
        }
    }

    /** The OUTPUT and the lines that go into it. */
    private static final class Coder {
        final Bits output = new Bits();
        private final int width;
        private final Spot spot;
        Line made;
        private Line above;
        boolean closed;
        int lines;
        int passes;
        int shifts;
        int acrosses;
        private boolean fits;

        Coder(int width) {
            this.width = width;
            made = new Line(width);
            above = new Line(width);
            spot = new Spot(above);
        }

        void begin() {
            output.cut(0);
            closed = false;
            made.whiten();
            above.whiten();
            lines = 0;
            passes = 0;
            shifts = 0;
            acrosses = 0;
        }

        /** How many bits the line took, or NONE if it can't be added: then all is as it was. */
        int addLine() {
            if (closed) {
                return NONE;
            }
            int bitsBefore = output.count;
            int passesBefore = passes;
            int shiftsBefore = shifts;
            int acrossesBefore = acrosses;
            addSteps();
            if (!fits) {
                output.cut(bitsBefore);
                passes = passesBefore;
                shifts = shiftsBefore;
                acrosses = acrossesBefore;
                return NONE;
            }
            Line coded = made;
            made = above;
            above = coded;
            made.whiten();
            lines++;
            return output.count - bitsBefore;
        }

        /** How many bytes the OUTPUT has with its end, or NONE if that can't be added. */
        int finish() {
            int size = output.count + 2 * Words.length(Words.step(Words.END));
            if (closed || size > Bits.MOST) {
                return NONE;
            }
            addWord(Words.step(Words.END));
            addWord(Words.step(Words.END));
            output.add(0, 8 * output.bytes() - output.count);
            closed = true;
            return output.bytes();
        }

        private void addSteps() {
            fits = true;
            made.findChanges();
            spot.begin(above);
            int i = 0;
            // Each step goes at least one dot to the right.
            for (int n = 0; n <= width && spot.a < width && fits; n++) {
                i = made.firstRightOf(spot.a, i);
                addStep(made.placeOf(i), made.placeOf(i + 1));
            }
        }

        private void addStep(int a1, int a2) {
            int shift = a1 - spot.b1;
            if (spot.b2 < a1) {
                passes++;
                addWord(Words.step(Words.PASS));
                spot.move(spot.b2, spot.inBlack);
            } else if (shift >= -3 && shift <= 3) {
                shifts++;
                addWord(Words.step(Words.SHIFT_BY_0 + shift));
                spot.move(a1, !spot.inBlack);
            } else {
                acrosses++;
                addWord(Words.step(Words.ACROSS));
                addRun(a1 - Math.max(spot.a, 0), spot.inBlack);
                addRun(a2 - a1, !spot.inBlack);
                spot.move(a2, spot.inBlack);
            }
        }

        private void addRun(int n, boolean black) {
            int left = n;
            for (; left >= Words.MOST_BLOCK; left -= Words.MOST_BLOCK) {
                addWord(Words.block(Words.MOST_BLOCK, black));
            }
            if (left >= 64) {
                addWord(Words.block(left, black));
            }
            addWord(Words.rest(left % 64, black));
        }

        private void addWord(int word) {
            fits = output.add(word, Words.length(word)) && fits;
        }
    }

    /** The INPUT and the lines that come out of it. */
    private static final class Reader {
        private static final int LINE = 1;
        private static final int PICTURE_ENDS = 0;
        private static final int BITS_END = -1;
        private static final int NO_WORD = -2;
        private static final int PASS_TO_WIDTH = -3;
        private static final int SHIFT_ASTRAY = -4;
        private static final int RUN_BEYOND = -5;
        private static final int NO_DOTS = -6;
        private static final int FINE = 0;

        final Bits input = new Bits();
        private final WordTree tree = new WordTree();
        private final int width;
        private final Spot spot;
        Line above;
        private Line fresh;
        int lines;
        int at;
        private int wordAt;
        private int answer;

        Reader(int width) {
            this.width = width;
            above = new Line(width);
            fresh = new Line(width);
            spot = new Spot(above);
            answer = LINE;
        }

        void begin() {
            above.whiten();
            lines = 0;
            at = 0;
            answer = LINE;
        }

        int nextLine() {
            if (answer != LINE) {
                return answer;
            }
            spot.begin(above);
            answer = readSteps();
            if (answer == LINE) {
                fresh.findChanges();
                Line last = above;
                above = fresh;
                fresh = last;
                lines++;
            }
            return answer;
        }

        private int readSteps() {
            int word = take(WordTree.LINE_BEGINS);
            if (word == Words.END) {
                int second = take(WordTree.END_ALONE);
                return second < 0 ? second : PICTURE_ENDS;
            }
            // Each step goes at least one dot to the right.
            for (int n = 0; n <= width && word >= 0; n++) {
                int fault = word == Words.PASS ? pass()
                    : word == Words.ACROSS ? across() : shift(word - Words.SHIFT_BY_0);
                if (fault != FINE) {
                    return fault;
                }
                if (spot.a >= width) {
                    return LINE;
                }
                word = take(WordTree.IN_LINE);
            }
            return word < 0 ? word : NO_WORD;
        }

        /** The meaning of the word that stands where reading goes on, and reading goes behind it; or a FAULT. */
        private int take(int root) {
            int node = root;
            wordAt = at;
            for (int i = at; i < input.count; i++) {
                node = tree.follow(node, input.bit(i));
                if (WordTree.isWord(node)) {
                    at = i + 1;
                    return WordTree.meaning(node);
                }
                if (node == WordTree.NOTHING) {
                    return NO_WORD;
                }
            }
            return BITS_END;
        }

        /** A FAULT about a word that has been taken: reading goes back to its first bit. */
        private int faultAt(int bit, int which) {
            at = bit;
            return which;
        }

        private int pass() {
            if (spot.b2 >= width) {
                return faultAt(wordAt, PASS_TO_WIDTH);
            }
            drawTo(spot.b2);
            spot.move(spot.b2, spot.inBlack);
            return FINE;
        }

        private int shift(int by) {
            int to = spot.b1 + by;
            if (to <= spot.a || to > width) {
                return faultAt(wordAt, SHIFT_ASTRAY);
            }
            drawTo(to);
            spot.move(to, !spot.inBlack);
            return FINE;
        }

        private int across() {
            int acrossAt = wordAt;
            int from = Math.max(spot.a, 0);
            int middle = runFrom(from, spot.inBlack);
            if (middle < 0) {
                return middle;
            }
            int to = runFrom(middle, !spot.inBlack);
            if (to < 0) {
                return to;
            }
            if (to == from) {
                return faultAt(acrossAt, NO_DOTS);
            }
            fresh.fill(from, middle, spot.inBlack);
            fresh.fill(middle, to, !spot.inBlack);
            spot.move(to, spot.inBlack);
            return FINE;
        }

        /** Where the RUN from a place on ends; or a FAULT. */
        private int runFrom(int from, boolean black) {
            int to = from;
            // Each BLOCK has dots, so that the WIDTH bounds them.
            for (int n = 0; n <= width; n++) {
                int dots = take(black ? WordTree.BLACK_RUN : WordTree.WHITE_RUN);
                if (dots < 0) {
                    return dots;
                }
                if (dots > width - to) {
                    return faultAt(wordAt, RUN_BEYOND);
                }
                to += dots;
                if (dots < 64) {
                    return to;
                }
            }
            return faultAt(wordAt, RUN_BEYOND);
        }

        private void drawTo(int to) {
            fresh.fill(Math.max(spot.a, 0), to, spot.inBlack);
        }
    }

    /** All words that can stand somewhere, to be found bit by bit: what can stand where, by the root to begin at. */
    private static final class WordTree {
        static final int IN_LINE = 0;
        static final int LINE_BEGINS = 1;
        static final int END_ALONE = 2;
        static final int WHITE_RUN = 3;
        static final int BLACK_RUN = 4;
        static final int NOTHING = 0;
        private static final int ROOTS = 5;
        private static final int MOST_NODES = 256;

        /** Two branches a node, for 0 and for 1: NOTHING, a node's number, or below 0 a word's meaning. */
        private final int[] branches = new int[2 * MOST_NODES];
        private int nodes = ROOTS;

        WordTree() {
            for (int step = 0; step < Words.END; step++) {
                put(IN_LINE, Words.step(step), step);
                put(LINE_BEGINS, Words.step(step), step);
            }
            put(LINE_BEGINS, Words.step(Words.END), Words.END);
            put(END_ALONE, Words.step(Words.END), Words.END);
            for (int n = 0; n < 64; n++) {
                put(WHITE_RUN, Words.rest(n, false), n);
                put(BLACK_RUN, Words.rest(n, true), n);
            }
            for (int n = 64; n <= Words.MOST_BLOCK; n += 64) {
                put(WHITE_RUN, Words.block(n, false), n);
                put(BLACK_RUN, Words.block(n, true), n);
            }
        }

        static boolean isWord(int node) {
            return node < 0;
        }

        static int meaning(int node) {
            return ~node;
        }

        /** What comes behind a node by a bit of 0 or 1: NOTHING, a node, or a word. */
        int follow(int node, int bit) {
            int i = 2 * node + bit;
            return i < 0 || i >= branches.length ? NOTHING : branches[i];
        }

        private void put(int root, int word, int meaning) {
            int node = root;
            for (int bit = Words.length(word) - 1; bit > 0; bit--) {
                node = grow(node, word >> bit & 1);
            }
            set(node, word & 1, ~meaning);
        }

        private int grow(int node, int bit) {
            if (follow(node, bit) == NOTHING && nodes < MOST_NODES) {
                set(node, bit, nodes);
                nodes++;
            }
            return follow(node, bit);
        }

        private void set(int node, int bit, int value) {
            int i = 2 * node + bit;
            if (i >= 0 && i < branches.length) {
                branches[i] = value;
            }
        }
    }

    /** The words' bits, each behind a 1 of its own, without which the 0s ahead would be lost. */
    private static final class Words {
        static final int SHIFT_BY_0 = 3;
        static final int PASS = 7;
        static final int ACROSS = 8;
        static final int END = 9;
        static final int MOST_BLOCK = 2560;

        /** The SHIFTS by -3 to 3, PASS, ACROSS and END. */
        private static final int[] STEPS = {
            0b1_0000010, 0b1_000010, 0b1_010, 0b1_1, 0b1_011, 0b1_000011, 0b1_0000011,
            0b1_0001, 0b1_001, 0b1_000000000001
        };
        private static final int[] WHITE_RESTS = {
            0b1_00110101, 0b1_000111, 0b1_0111, 0b1_1000, 0b1_1011, 0b1_1100, 0b1_1110, 0b1_1111, 0b1_10011,
            0b1_10100, 0b1_00111, 0b1_01000, 0b1_001000, 0b1_000011, 0b1_110100, 0b1_110101, 0b1_101010,
            0b1_101011, 0b1_0100111, 0b1_0001100, 0b1_0001000, 0b1_0010111, 0b1_0000011, 0b1_0000100, 0b1_0101000,
            0b1_0101011, 0b1_0010011, 0b1_0100100, 0b1_0011000, 0b1_00000010, 0b1_00000011, 0b1_00011010,
            0b1_00011011, 0b1_00010010, 0b1_00010011, 0b1_00010100, 0b1_00010101, 0b1_00010110, 0b1_00010111,
            0b1_00101000, 0b1_00101001, 0b1_00101010, 0b1_00101011, 0b1_00101100, 0b1_00101101, 0b1_00000100,
            0b1_00000101, 0b1_00001010, 0b1_00001011, 0b1_01010010, 0b1_01010011, 0b1_01010100, 0b1_01010101,
            0b1_00100100, 0b1_00100101, 0b1_01011000, 0b1_01011001, 0b1_01011010, 0b1_01011011, 0b1_01001010,
            0b1_01001011, 0b1_00110010, 0b1_00110011, 0b1_00110100
        };
        private static final int[] BLACK_RESTS = {
            0b1_0000110111, 0b1_010, 0b1_11, 0b1_10, 0b1_011, 0b1_0011, 0b1_0010, 0b1_00011, 0b1_000101,
            0b1_000100, 0b1_0000100, 0b1_0000101, 0b1_0000111, 0b1_00000100, 0b1_00000111, 0b1_000011000,
            0b1_0000010111, 0b1_0000011000, 0b1_0000001000, 0b1_00001100111, 0b1_00001101000, 0b1_00001101100,
            0b1_00000110111, 0b1_00000101000, 0b1_00000010111, 0b1_00000011000, 0b1_000011001010,
            0b1_000011001011, 0b1_000011001100, 0b1_000011001101, 0b1_000001101000, 0b1_000001101001,
            0b1_000001101010, 0b1_000001101011, 0b1_000011010010, 0b1_000011010011, 0b1_000011010100,
            0b1_000011010101, 0b1_000011010110, 0b1_000011010111, 0b1_000001101100, 0b1_000001101101,
            0b1_000011011010, 0b1_000011011011, 0b1_000001010100, 0b1_000001010101, 0b1_000001010110,
            0b1_000001010111, 0b1_000001100100, 0b1_000001100101, 0b1_000001010010, 0b1_000001010011,
            0b1_000000100100, 0b1_000000110111, 0b1_000000111000, 0b1_000000100111, 0b1_000000101000,
            0b1_000001011000, 0b1_000001011001, 0b1_000000101011, 0b1_000000101100, 0b1_000001011010,
            0b1_000001100110, 0b1_000001100111
        };
        private static final int[] WHITE_BLOCKS = {
            0b1_11011, 0b1_10010, 0b1_010111, 0b1_0110111, 0b1_00110110, 0b1_00110111, 0b1_01100100, 0b1_01100101,
            0b1_01101000, 0b1_01100111, 0b1_011001100, 0b1_011001101, 0b1_011010010, 0b1_011010011, 0b1_011010100,
            0b1_011010101, 0b1_011010110, 0b1_011010111, 0b1_011011000, 0b1_011011001, 0b1_011011010,
            0b1_011011011, 0b1_010011000, 0b1_010011001, 0b1_010011010, 0b1_011000, 0b1_010011011
        };
        private static final int[] BLACK_BLOCKS = {
            0b1_0000001111, 0b1_000011001000, 0b1_000011001001, 0b1_000001011011, 0b1_000000110011,
            0b1_000000110100, 0b1_000000110101, 0b1_0000001101100, 0b1_0000001101101, 0b1_0000001001010,
            0b1_0000001001011, 0b1_0000001001100, 0b1_0000001001101, 0b1_0000001110010, 0b1_0000001110011,
            0b1_0000001110100, 0b1_0000001110101, 0b1_0000001110110, 0b1_0000001110111, 0b1_0000001010010,
            0b1_0000001010011, 0b1_0000001010100, 0b1_0000001010101, 0b1_0000001011010, 0b1_0000001011011,
            0b1_0000001100100, 0b1_0000001100101
        };
        private static final int[] LONG_BLOCKS = {
            0b1_00000001000, 0b1_00000001100, 0b1_00000001101, 0b1_000000010010, 0b1_000000010011,
            0b1_000000010100, 0b1_000000010101, 0b1_000000010110, 0b1_000000010111, 0b1_000000011100,
            0b1_000000011101, 0b1_000000011110, 0b1_000000011111
        };

        static int length(int word) {
            return 31 - Integer.numberOfLeadingZeros(word);
        }

        static int step(int which) {
            return at(STEPS, which);
        }

        /** The REST of n dots. */
        static int rest(int n, boolean black) {
            return at(black ? BLACK_RESTS : WHITE_RESTS, n);
        }

        /** The BLOCK of n less n % 64 dots. */
        static int block(int n, boolean black) {
            int i = n / 64 - 1;
            if (i >= WHITE_BLOCKS.length) {
                return at(LONG_BLOCKS, i - WHITE_BLOCKS.length);
            }
            return at(black ? BLACK_BLOCKS : WHITE_BLOCKS, i);
        }

        private static int at(int[] words, int i) {
            return i < 0 || i >= words.length ? 1 : words[i];
        }
    }
}

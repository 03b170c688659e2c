/** Each promise of the document by its number: ordinary inputs, the edges that it names, wrong inputs. */
public final class PromisesTest {
    private static final String END = "000000000001";
    private static int wrong = 0;
    private static int promise;

    private static void due(String what, long got, long want) {
        if (got != want) {
            wrong++;
            System.out.println("promise " + promise + ": " + what + " answered " + got + ", due is " + want);
        }
    }

    private static void due(String what, boolean got, boolean want) {
        due(what, got ? 1 : 0, want ? 1 : 0);
    }

    private static void due(String what, String got, String want) {
        if (!got.equals(want)) {
            wrong++;
            System.out.println("promise " + promise + ": " + what + " answered " + got + ", due is " + want);
        }
    }

    private static final int THROWS = Integer.MIN_VALUE;

    private static int code(DotLines x) {
        try {
            return x.code();
        } catch (IllegalStateException e) {
            return THROWS;
        }
    }

    private static int close(DotLines x) {
        try {
            return x.close();
        } catch (IllegalStateException e) {
            return THROWS;
        }
    }

    private static int turn(DotLines x, int n) {
        try {
            return x.turn(n);
        } catch (IllegalArgumentException e) {
            return THROWS;
        }
    }

    private static int black(DotLines x, int i) {
        try {
            return x.black(i) ? 1 : 0;
        } catch (IndexOutOfBoundsException e) {
            return THROWS;
        }
    }

    /** The OUTPUT's bits from one on. */
    private static String bits(DotLines x, int from) {
        StringBuilder bits = new StringBuilder();
        for (int i = from; i < x.look(1); i++) {
            bits.append(x.out(i / 64) >>> (63 - i % 64) & 1);
        }
        return bits.toString();
    }

    /** The bits, without the gaps and filled with 0s to whole bytes, as the INPUT of a new object. */
    private static DotLines given(int width, String text) {
        DotLines x = new DotLines(width);
        giveBits(x, text);
        return x;
    }

    private static void giveBits(DotLines x, String text) {
        String bits = text.replace(" ", "");
        for (int i = 0; i < bits.length(); i += 8) {
            x.give(Integer.parseInt((bits.substring(i) + "0000000").substring(0, 8), 2), 1);
        }
    }

    private static DotLines painted(int width, int... fromAndN) {
        DotLines x = new DotLines(width);
        paintAll(x, fromAndN);
        return x;
    }

    private static void paintAll(DotLines x, int... fromAndN) {
        for (int i = 0; i < fromAndN.length; i += 2) {
            due("paint(" + fromAndN[i] + ", " + fromAndN[i + 1] + ", true)", x.paint(fromAndN[i], fromAndN[i + 1], true), true);
        }
    }

    /** The bits of a line below another one. */
    private static String coded(int width, int[] above, int[] line) {
        DotLines x = painted(width, above);
        int before = code(x);
        paintAll(x, line);
        int took = code(x);
        due("how many bits code() took", took, x.look(1) - before);
        return bits(x, before);
    }

    /** What read() answers and where it stands then, for bits that begin the INPUT. */
    private static void reads(int width, String text, int answer, int at) {
        DotLines x = given(width, text);
        due("read() of " + text, x.read(), answer);
        due("look(9) behind read() of " + text, x.look(9), at);
    }

    private static int[] dots(int... fromAndN) {
        return fromAndN;
    }

    private static void newObject() {
        promise = 1;
        int[] asked = {24, 1, 10000, 0, -1, Integer.MIN_VALUE, 10001, Integer.MAX_VALUE};
        int[] widths = {24, 1, 10000, 1, 1, 1, 10000, 10000};
        for (int i = 0; i < asked.length; i++) {
            DotLines x = new DotLines(asked[i]);
            due("WIDTH for " + asked[i], x.look(0), widths[i]);
            due("last dot", x.paint(widths[i] - 1, 1, true), true);
            due("dot behind the last", x.paint(widths[i], 1, true), false);
            for (int which = 1; which < 10; which++) {
                due("look(" + which + ") of a new object", x.look(which), 0);
            }
            due("out(0) of a new object", x.out(0), 0);
            due("dots(0) of a new object", x.dots(0), 0);
            due("read() of a new object", x.read(), -1);
        }
        due("NONE", DotLines.NONE, -1);
    }

    private static void paint() {
        promise = 2;
        DotLines x = new DotLines(20);
        int[][] refused = {{-1, 2}, {0, 0}, {0, -1}, {20, 1}, {19, 2}, {0, 21}, {1, Integer.MAX_VALUE}, {20, 0},
            {Integer.MAX_VALUE, Integer.MAX_VALUE}, {Integer.MAX_VALUE, 1}, {Integer.MIN_VALUE, 1}, {5, Integer.MIN_VALUE},
            {Integer.MIN_VALUE, Integer.MIN_VALUE}, {-5, 30}};
        for (int[] r : refused) {
            due("paint(" + r[0] + ", " + r[1] + ", true)", x.paint(r[0], r[1], true), false);
        }
        due("code() of a line in which nothing was painted", code(x), 1);
        due("paint(0, 20, true)", x.paint(0, 20, true), true);
        due("paint(4, 3, false)", x.paint(4, 3, false), true);
        due("paint(19, 1, false)", x.paint(19, 1, false), true);
        due("paint(18, 3, false)", x.paint(18, 3, false), false);
        code(x);
        turn(x, 0);
        x.read();
        x.read();
        due("dots(0)", x.dots(0), 0b1111_000_111111111111_0L << 44);
        DotLines wide = painted(200, 60, 10, 120, 80);
        code(wide);
        turn(wide, 0);
        wide.read();
        due("dots(0)", wide.dots(0), 0xFL);
        due("dots(1)", wide.dots(1), 0x3FL << 58 | 0xFF);
        due("dots(2)", wide.dots(2), -1L);
        due("dots(3)", wide.dots(3), 0xFFL << 56);
    }

    private static DotLines codedOnce(int width, int... fromAndN) {
        DotLines x = painted(width, fromAndN);
        code(x);
        return x;
    }

    private static void codeSteps() {
        promise = 3;
        due("first line", bits(codedOnce(20, 10, 5), 0), "001" + "00111" + "0011" + "1");
        String[] shifts = {"0000010", "000010", "010", "1", "011", "000011", "0000011"};
        for (int s = -3; s <= 3; s++) {
            due("SHIFT to black by " + s, coded(20, dots(10, 5), dots(10 + s, 5 - s)), shifts[s + 3] + "1" + "1");
            due("SHIFT to white by " + s, coded(20, dots(10, 5), dots(10, 5 + s)), "1" + shifts[s + 3] + "1");
        }
        due("4 to the right", coded(20, dots(10, 5), dots(14, 1)), "001" + "110100" + "010" + "1");
        due("4 to the left", coded(20, dots(10, 5), dots(6, 9)), "001" + "1110" + "000100" + "1");
        due("PASS", coded(20, dots(5, 3), dots()), "0001" + "1");
        due("b2 is right of a1", coded(20, dots(5, 3), dots(0, 20)), "001" + "00110101" + "00001101000");
        due("b2 is a1", coded(20, dots(5, 3), dots(8, 4)), "0000011" + "001" + "011" + "10011");
        due("a first dot that is black", coded(20, dots(0, 1), dots(0, 1)), "1" + "1" + "1");
        due("SHIFT to 0", coded(20, dots(1, 2), dots(0, 3)), "010" + "1" + "1");
        due("a white line", coded(10000, dots(), dots()), "1");
        due("a line of 1", coded(1, dots(), dots(0, 1)), "010" + "1");
    }

    private static void codeRuns() {
        promise = 3;
        due("white 0, black 5120", bits(codedOnce(8000, 0, 5120), 3),
            "00110101" + "000000011111" + "000000011111" + "0000110111" + "1");
        due("white 2559, black 2559", bits(codedOnce(9000, 2559, 2559), 3),
            "000000011110" + "00110100" + "000000011110" + "000001100111" + "1");
        due("white 2560, black 2560", bits(codedOnce(9000, 2560, 2560), 3),
            "000000011111" + "00110101" + "000000011111" + "0000110111" + "1");
        due("white 63, black 64", bits(codedOnce(9000, 63, 64), 3), "00110100" + "0000001111" + "0000110111" + "1");
        due("white 64, black 63", bits(codedOnce(9000, 64, 63), 3), "11011" + "00110101" + "000001100111" + "1");
        due("white 1728, black 1792", bits(codedOnce(9000, 1728, 1792), 3),
            "010011011" + "00110101" + "00000001000" + "0000110111" + "1");
        due("white 1, black 9999", bits(codedOnce(10000, 1, 9999), 3),
            "000111" + "000000011111".repeat(3) + "000000010111" + "000011000");
    }

    private static void codeRefused() {
        promise = 3;
        DotLines x = codedOnce(10, 3, 4);
        close(x);
        int bits = x.look(1);
        due("code() when closed", code(x), THROWS);
        due("lines coded", x.look(5), 1);
        due("bits", x.look(1), bits);
        DotLines full = filled(524287);
        int passes = full.look(6);
        int lines = full.look(5);
        paintAll(full, 5000, 1);
        due("code() without room", code(full), THROWS);
        due("bits after it", full.look(1), 524287);
        due("last part after it", full.out(8191), -2L);
        due("lines after it", full.look(5), lines);
        due("words after it", full.look(6), passes);
        due("words after it", full.look(8), filled(524287).look(8));
        due("the line is still being made", full.paint(5000, 1, false), true);
        due("code() up to the last bit", code(full), 1);
        due("bits then", full.look(1), 524288);
        due("last part then", full.out(8191), -1L);
        due("code() of one bit more", code(full), THROWS);
    }

    /** An OUTPUT of that many bits, white lines being its last ones (this takes more calls than are promised). */
    private static DotLines filled(int bits) {
        DotLines x = new DotLines(10000);
        for (int n = 0; n < 6; n++) {
            for (int i = 0; i < 10000; i += 2) {
                x.paint(i, 1, true);
            }
            code(x);
            code(x);
        }
        while (x.look(1) < bits) {
            code(x);
        }
        due("bits", x.look(1), bits);
        return x;
    }

    private static void closeOutput() {
        promise = 4;
        DotLines empty = new DotLines(7);
        due("close() of nothing", close(empty), 3);
        due("its bits", bits(empty, 0), END + END);
        due("closed", empty.look(2), 1);
        due("close() again", close(empty), THROWS);
        due("bits after it", empty.look(1), 24);
        DotLines x = new DotLines(7);
        code(x);
        due("close() behind one bit", close(x), 4);
        due("its bits", bits(x, 0), "1" + END + END + "0000000");
        due("lines coded", x.look(5), 1);
        DotLines full = filled(524288 - 24);
        due("close() up to the last bit", close(full), 65536);
        due("last part", full.out(8191), -1L << 24 | 0x001001);
        DotLines over = filled(524288 - 23);
        due("close() without room", close(over), THROWS);
        due("bits after it", over.look(1), 524288 - 23);
        due("not closed", over.look(2), 0);
        due("last part", over.out(8191), -1L << 23);
    }

    private static void clearOutput() {
        promise = 5;
        DotLines x = codedOnce(10, 3, 4);
        paintAll(x, 1, 1);
        code(x);
        close(x);
        turn(x, 0);
        x.read();
        paintAll(x, 0, 2);
        x.clear();
        for (int which : new int[] {1, 2, 5, 6, 7, 8}) {
            due("look(" + which + ")", x.look(which), 0);
        }
        due("out(0)", x.out(0), 0);
        due("INPUT stays", x.look(3), 7);
        due("reading goes on", x.look(4), 1);
        due("line read last", x.dots(0), 0b1111L << 57);
        due("code() of white below white", code(x), 1);
        due("out(0) then", x.out(0), 1L << 63);
    }

    private static void outParts() {
        promise = 6;
        DotLines x = codedOnce(9000, 2559, 2559);
        code(x);
        String bits = bits(x, 0);
        due("bits", bits, "001" + "000000011110" + "00110100" + "000000011110" + "000001100111" + "1" + "0001" + "1");
        due("out(0)", x.out(0), Long.parseLong(bits, 2) << (64 - bits.length()));
        due("out(1), none", x.out(1), 0);
        paintAll(x, 2559, 2559);
        code(x);
        due("out(0), full", x.out(0), Long.parseLong(bits + "001" + "00000001", 2));
        due("out(1), behind it", x.out(1) >>> 32, Long.parseLong("1110" + "00110100" + "000000011110" + "00000110", 2));
        for (int k : new int[] {-1, 2, 8191, 8192, 1 << 26, 1 << 29, Integer.MAX_VALUE, Integer.MIN_VALUE, -(1 << 29)}) {
            due("out(" + k + ")", x.out(k), 0);
        }
    }

    private static void give() {
        promise = 7;
        DotLines x = new DotLines(10);
        for (int n : new int[] {0, 9, -1, Integer.MIN_VALUE, Integer.MAX_VALUE}) {
            due("give(1, " + n + ")", x.give(1, n), false);
        }
        due("bytes", x.look(3), 0);
        due("give(.., 3)", x.give(0xFFFFFFFFFF001001L, 3), true);
        due("bytes", x.look(3), 3);
        due("read() of two ENDs", x.read(), 0);
        x.wipe();
        due("give(.., 1)", x.give(0x7700, 1), true);
        due("give(.., 8)", x.give(0x1001FFFFFFFFFFFFL, 8), true);
        due("bytes", x.look(3), 9);
        due("read() of two ENDs", x.read(), 0);
        DotLines full = new DotLines(10);
        // more calls than are promised
        for (int i = 0; i < 8191; i++) {
            full.give(-1, 8);
        }
        due("give(.., 4)", full.give(-1, 4), true);
        due("give(.., 5) without room", full.give(-1, 5), false);
        due("bytes", full.look(3), 65532);
        due("give(.., 4) up to the last byte", full.give(-1, 4), true);
        due("give(.., 1) without room", full.give(-1, 1), false);
        due("bytes", full.look(3), 65536);
        due("read()", full.read(), 1);
    }

    private static void turnOver() {
        promise = 8;
        DotLines x = new DotLines(10);
        due("turn(0) of nothing", turn(x, 0), 0);
        due("turn(1) of nothing", turn(x, 1), THROWS);
        paintAll(x, 3, 4);
        code(x);
        for (int i = 0; i < 70; i++) {
            code(x);
        }
        int bytes = (x.look(1) + 7) / 8;
        x.wipe();
        x.give(0x80, 1);
        x.read();
        due("turn(-1)", turn(x, -1), THROWS);
        due("turn(MIN)", turn(x, Integer.MIN_VALUE), THROWS);
        due("turn of one more than there are", turn(x, bytes + 1), THROWS);
        due("INPUT after it", x.look(3), 1);
        due("lines read after it", x.look(4), 1);
        due("turn(0)", turn(x, 0), bytes);
        due("INPUT", x.look(3), bytes);
        due("lines read", x.look(4), 0);
        due("bit", x.look(9), 0);
        due("OUTPUT stays", (x.look(1) + 7) / 8, bytes);
        due("read()", x.read(), 1);
        due("its dots", x.dots(0), 0b1111L << 57);
        due("turn(9)", turn(x, 9), bytes - 9);
        due("line read last", x.dots(0), 0);
        due("read()", x.read(), 1);
        due("turn of all", turn(x, bytes), 0);
        due("read()", x.read(), -1);
        filledUp();
    }

    private static void filledUp() {
        DotLines full = filled(524288 - 24);
        close(full);
        due("turn(0) of all that is possible", turn(full, 0), 65536);
        due("give() behind it", full.give(0, 1), false);
        due("turn(65533)", turn(full, 65533), 3);
        due("read() of two ENDs", full.read(), 0);
        due("bit", full.look(9), 24);
        due("turn(65534)", turn(full, 65534), 2);
        due("read() of what is a PASS there", full.read(), -3);
    }

    private static void wipe() {
        promise = 9;
        DotLines x = given(10, "001 1000 10 1 1");
        x.read();
        x.read();
        x.wipe();
        due("bytes", x.look(3), 0);
        due("lines read", x.look(4), 0);
        due("bit", x.look(9), 0);
        due("dots(0)", x.dots(0), 0);
        due("read()", x.read(), -1);
        x.wipe();
        giveBits(x, "0001 1");
        due("read() of a PASS, the line above being white", x.read(), -3);
    }

    private static void rewind() {
        promise = 10;
        DotLines x = given(10, "001 1000 10 1 0001 1" + END + END);
        for (int round = 0; round < 2; round++) {
            due("read()", x.read(), 1);
            due("dots(0)", x.dots(0), 0b111L << 58);
            due("read()", x.read(), 1);
            due("dots(0)", x.dots(0), 0);
            due("read()", x.read(), 0);
            due("lines read", x.look(4), 2);
            x.rewind();
            due("lines read", x.look(4), 0);
            due("bit", x.look(9), 0);
            due("INPUT", x.look(3), 5);
        }
        x.read();
        x.rewind();
        due("dots(0)", x.dots(0), 0);
        due("black(4)", black(x, 4), 0);
        due("change(-1)", x.change(-1), 0);
    }

    private static void readLines() {
        promise = 11;
        reads(10, "1", 1, 1);
        reads(10, "0000010 1", 1, 8);
        reads(10, "001 00111 0000110111", 1, 18);
        reads(100, "001 11011 00010101 0000110111", 1, 26);
        reads(128, "001 11011 11011 00110101 0000110111", 1, 31);
        reads(2624, "001 11011 000000011111 00110101 0000110111", 1, 38);
        DotLines x = given(10, "001 1000 0000110111 001 0111 11 1" + "001 00110101 0011 1" + "1 0000010 001 1000 10 1");
        due("read() with a run of 0 dots", x.read(), 1);
        due("its dots", x.dots(0), 0b11L << 57);
        due("read() with a white run of 0 dots", x.read(), 1);
        due("its dots", x.dots(0), 0b11111L << 59);
        due("read()", x.read(), 1);
        due("its dots", x.dots(0), 0b1100011100L << 54);
        due("lines read", x.look(4), 3);
    }

    private static void readFaults() {
        promise = 11;
        reads(10, "", -1, 0);
        reads(10, "00000000", -1, 0);
        reads(10, "010 00000", -1, 3);
        reads(10, "010 0000000 000000", -2, 3);
        reads(10, "010 " + END, -2, 3);
        reads(10, END + END, 0, 24);
        reads(10, END, -1, 12);
        reads(10, END + "1", -2, 12);
        reads(10, END + "00000001", -2, 12);
        reads(10, "000000000000 0000", -2, 0);
        reads(10, "0001", -3, 0);
        reads(10, "011", -4, 0);
        reads(10, "000011", -4, 0);
        reads(10, "0000011", -4, 0);
        reads(2, "0000010", -4, 0);
        reads(2, "000010 1", 1, 7);
        reads(10, "010 010", -4, 3);
        reads(10, "001 11011", -5, 3);
        reads(10, "001 01000", -5, 3);
        reads(10, "001 00111 010", -5, 8);
        reads(100, "001 11011 00010110", -5, 8);
        reads(100, "001 11011 11011", -5, 8);
        reads(10, "001 00110101 0000110111", -6, 0);
        reads(10, "010 001 0000110111 00110101", -6, 3);
        reads(10, "001 00000000", -2, 3);
        reads(10, "001 1000 00000000 0", -2, 7);
        reads(10, "001 00110", -1, 3);
        reads(10, "001 00110101 00000", -1, 11);
        readBehind("111111 001 0000000", 6, -1, 9);
        readBehind("11111 001 00000000", 5, -2, 8);
        readBehind("11111111 010 00000", 8, -1, 11);
        readBehind("1111111 010 000000", 7, -2, 10);
        readBehind("11111 00000000000", 5, -1, 5);
        readBehind("1111 000000000000", 4, -2, 4);
        readBehind("11111111", 8, -1, 8);
        readBehind("001 1100 0011 0001", 1, -3, 11);
        readBehind("001 1000 10 1 0001 1", 2, -1, 15);
        readBehind("001 00110101 0011 1 010", 1, -4, 16);
        readBehind("001 00110101 010 1 1 010", 1, -4, 16);
    }

    /** What read() answers behind some lines. */
    private static void readBehind(String text, int lines, int answer, int at) {
        DotLines x = given(10, text);
        for (int i = 0; i < lines; i++) {
            due("read() of line " + i + " of " + text, x.read(), 1);
        }
        long dots = x.dots(0);
        due("read() behind the lines of " + text, x.read(), answer);
        due("look(9) behind the lines of " + text, x.look(9), at);
        due("lines read", x.look(4), lines);
        due("line read last", x.dots(0), dots);
    }

    private static void readAgain() {
        promise = 11;
        DotLines x = given(10, END);
        due("read()", x.read(), -1);
        giveBits(x, "00000001");
        due("read() with more INPUT", x.read(), -1);
        due("bit", x.look(9), 12);
        x.rewind();
        due("read() anew", x.read(), 0);
        giveBits(x, "11111111");
        due("read() behind the END", x.read(), 0);
        due("bit", x.look(9), 24);
        DotLines late = given(10, "11111111");
        for (int i = 0; i < 8; i++) {
            late.read();
        }
        giveBits(late, "11111111");
        due("read() with INPUT that came in time", late.read(), 1);
    }

    private static void blackDots() {
        promise = 12;
        DotLines x = given(10, "001 1000 10 1 0001 0001");
        due("black(0) ahead of any line", black(x, 0), 0);
        due("black(9) ahead of any line", black(x, 9), 0);
        due("black(10) ahead of any line", black(x, 10), THROWS);
        x.read();
        int[] dots = {0, 0, 0, 1, 1, 1, 0, 0, 0, 0};
        for (int i = 0; i < 10; i++) {
            due("black(" + i + ")", black(x, i), dots[i]);
        }
        for (int i : new int[] {-1, 10, 63, 64, Integer.MIN_VALUE, Integer.MAX_VALUE}) {
            due("black(" + i + ")", black(x, i), THROWS);
        }
        due("read() of a FAULT", x.read(), -3);
        due("black(3) behind a FAULT", black(x, 3), 1);
        DotLines wide = codedOnce(130, 63, 2, 129, 1);
        turn(wide, 0);
        wide.read();
        int[] places = {62, 63, 64, 65, 128, 129};
        int[] colours = {0, 1, 1, 0, 0, 1};
        for (int i = 0; i < places.length; i++) {
            due("black(" + places[i] + ")", black(wide, places[i]), colours[i]);
        }
        due("black(130)", black(wide, 130), THROWS);
    }

    private static void dotParts() {
        promise = 13;
        DotLines x = codedOnce(130, 63, 2, 129, 1);
        due("dots(0) ahead of any line", x.dots(0), 0);
        turn(x, 0);
        x.read();
        due("dots(0)", x.dots(0), 1);
        due("dots(1)", x.dots(1), 1L << 63);
        due("dots(2)", x.dots(2), 1L << 62);
        for (int k : new int[] {-1, 3, 157, 1 << 26, 1 << 25, Integer.MAX_VALUE, Integer.MIN_VALUE, -(1 << 26)}) {
            due("dots(" + k + ")", x.dots(k), 0);
        }
        DotLines full = codedOnce(100, 0, 100);
        turn(full, 0);
        full.read();
        due("dots(0)", full.dots(0), -1L);
        due("dots(1)", full.dots(1), -1L << 28);
    }

    private static void changes() {
        promise = 14;
        DotLines x = codedOnce(130, 0, 2, 63, 1, 129, 1);
        due("change(-1) ahead of any line", x.change(-1), 0);
        due("change(0) ahead of any line", x.change(0), -1);
        turn(x, 0);
        x.read();
        int[] places = {0, 2, 63, 64, 129};
        due("change(-1)", x.change(-1), places.length);
        for (int i = 0; i < places.length; i++) {
            due("change(" + i + ")", x.change(i), places[i]);
        }
        for (int i : new int[] {-2, 5, 6, 130, Integer.MIN_VALUE, Integer.MAX_VALUE}) {
            due("change(" + i + ")", x.change(i), -1);
        }
        DotLines joined = given(10, "001 1000 0000110111 1");
        joined.read();
        due("change(-1) with a run of 0 dots", joined.change(-1), 0);
    }

    private static void looks() {
        promise = 15;
        DotLines x = codedOnce(20, 5, 3);
        code(x);
        paintAll(x, 18, 1);
        code(x);
        int[] open = {20, 10 + 5 + 10, 0, 0, 0, 3, 1, 5, 1, 0};
        for (int which = 0; which < 10; which++) {
            due("look(" + which + ")", x.look(which), open[which]);
        }
        close(x);
        turn(x, 0);
        x.read();
        x.read();
        int[] closed = {20, 56, 1, 7, 2, 3, 1, 5, 1, 15};
        for (int which = 0; which < 10; which++) {
            due("look(" + which + ")", x.look(which), closed[which]);
        }
        for (int which : new int[] {-1, 10, 11, Integer.MIN_VALUE, Integer.MAX_VALUE}) {
            due("look(" + which + ")", x.look(which), -1);
        }
    }

    public static void main(String[] args) {
        newObject();
        paint();
        codeSteps();
        codeRuns();
        codeRefused();
        closeOutput();
        clearOutput();
        outParts();
        give();
        turnOver();
        wipe();
        rewind();
        readLines();
        readFaults();
        readAgain();
        blackDots();
        dotParts();
        changes();
        looks();
        System.out.println(wrong == 0 ? "all promises hold" : wrong + " answers are not as due");
        if (wrong != 0) {
            System.exit(1);
        }
    }
}

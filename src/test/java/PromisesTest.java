import java.util.function.Consumer;

/** The sentences of promises 1 to 15, each with a test named by its promise: ordinary inputs, edges, wrong inputs. */
public final class PromisesTest extends Check {
    /** Ints of which a multiple by 8 or 64 wraps round to what might look like a fine one. */
    private static final int[] WRAPS = {1 << 25, 1 << 26, 1 << 28, 1 << 29, 1 << 30, (1 << 26) + 1, (1 << 29) + 1,
        -(1 << 26), -(1 << 29), LEAST + 1, GREATEST - 1};

    public static void main(String[] args) throws Exception {
        runTests(PromisesTest.class);
    }

    // Promise 1: a new object

    @Sentence("The WIDTH is width, but at least 1 and at most 10000.")
    private static void promise01WidthIsAtLeast1() {
        int[] asked = {2, 1, 0, -1, LEAST};
        int[] widths = {2, 1, 1, 1, 1};
        for (int i = 0; i < asked.length; i++) {
            hasWidth(new DotLines(asked[i]), widths[i]);
        }
    }

    @Sentence("The WIDTH is width, but at least 1 and at most 10000.")
    private static void promise01WidthIsAtMost10000() {
        int[] asked = {24, 9999, 10000, 10001, GREATEST};
        int[] widths = {24, 9999, 10000, 10000, 10000};
        for (int i = 0; i < asked.length; i++) {
            hasWidth(new DotLines(asked[i]), widths[i]);
        }
    }

    private static void hasWidth(DotLines x, int width) {
        due("look(0)", x.look(0), width);
        due("paint() of the last dot", x.paint(width - 1, 1, true), true);
        due("paint() of one dot more", x.paint(width, 1, true), false);
        due("black() of the last dot", black(x, width - 1), 0);
        due("black() of one dot more", black(x, width), THROWS);
        code(x);
        turn(x, 0);
        due("read()", x.read(), 1);
        due("black() of the last dot when read", black(x, width - 1), 1);
        due("change(0)", x.change(0), width - 1);
    }

    @Sentence("OUTPUT and INPUT are empty.")
    private static void promise01OutputAndInputAreEmpty() {
        for (int width : new int[] {1, 10, 64, 10000}) {
            DotLines x = new DotLines(width);
            for (int which = 1; which < 10; which++) {
                due("look(" + which + ")", x.look(which), 0);
            }
            due("out(0)", x.out(0), 0);
            due("turn(1)", turn(x, 1), THROWS);
            due("turn(0)", turn(x, 0), 0);
            due("read()", x.read(), -1);
            due("look(9)", x.look(9), 0);
        }
    }

    @Sentence("`NONE = -1`: There is none.")
    private static void promise01None() {
        due("NONE", DotLines.NONE, -1);
    }

    // Promise 2: paint

    @Sentence("In the line that is being made (white at first) n dots from a place on become black, or white: true;")
    private static void promise02DotsBecomeBlackOrWhite() {
        due("nothing painted", madeBy(20), "....................");
        due("black", madeBy(20, 3, 5, 1), "...#####............");
        due("all", madeBy(20, 0, 20, 1), "####################");
        due("the first dot", madeBy(20, 0, 1, 1), "#...................");
        due("the last dot", madeBy(20, 19, 1, 1), "...................#");
        due("white in black", madeBy(20, 0, 20, 1, 4, 3, 0, 19, 1, 0, 0, 1, 0), ".###...############.");
        due("black on black, white on white", madeBy(20, 2, 5, 1, 4, 5, 1, 15, 2, 0), "..#######...........");
        due("a dot of one", madeBy(1, 0, 1, 1), "#");
        due("a dot of one, white again", madeBy(1, 0, 1, 1, 0, 1, 0), ".");
        int[] edges = {0, 1, 62, 63, 64, 65, 126, 127, 128, 129, 191, 192, 199};
        for (int from : edges) {
            for (int last : edges) {
                if (last >= from) {
                    String want = blackFromTo(200, from, last + 1);
                    due("black from " + from + " to " + last, madeBy(200, from, last - from + 1, 1), want);
                    due("white from " + from + " to " + last, madeBy(200, 0, 200, 1, from, last - from + 1, 0),
                        want.replace('.', '-').replace('#', '.').replace('-', '#'));
                }
            }
        }
    }

    /** The line that has been painted so (from, n, 1 for black), as it is read again. */
    private static String madeBy(int width, int... paints) {
        DotLines x = new DotLines(width);
        for (int i = 0; i < paints.length; i += 3) {
            due("paint(" + paints[i] + ", " + paints[i + 1] + ")", x.paint(paints[i], paints[i + 1], paints[i + 2] == 1), true);
        }
        code(x);
        turn(x, 0);
        due("read()", x.read(), 1);
        return row(x);
    }

    @Sentence("false if they are not all in it, or n is less than 1.")
    private static void promise02FalseIfNotAllInIt() {
        int[][] fine = {{0, 1}, {0, 20}, {1, 19}, {19, 1}};
        int[][] not = {{-1, 1}, {-1, 2}, {-5, 30}, {LEAST, 1}, {LEAST, 20}, {LEAST, GREATEST}, {-1, GREATEST}, {0, 21},
            {0, GREATEST}, {1, 20}, {1, GREATEST}, {19, 2}, {19, GREATEST}, {20, 1}, {21, 1}, {20, GREATEST},
            {GREATEST, 1}, {GREATEST, 2}, {GREATEST, GREATEST}};
        paints(fine, true);
        paints(not, false);
    }

    @Sentence("false if they are not all in it, or n is less than 1.")
    private static void promise02FalseIfNIsLessThan1() {
        int[][] not = {{0, 0}, {0, -1}, {0, LEAST}, {5, 0}, {5, -1}, {5, -5}, {5, LEAST}, {19, 0}, {20, 0}, {20, -1},
            {21, -1}, {-1, 0}, {-1, -1}, {LEAST, 0}, {LEAST, LEAST}, {GREATEST, 0}, {GREATEST, LEAST}, {GREATEST, -GREATEST}};
        paints(not, false);
    }

    private static void paints(int[][] all, boolean answer) {
        for (int[] p : all) {
            for (boolean black : new boolean[] {true, false}) {
                DotLines x = new DotLines(20);
                due("paint(" + p[0] + ", " + p[1] + ", " + black + ")", x.paint(p[0], p[1], black), answer);
                code(x);
                due("a white line then", x.out(0) == 1L << 63 && x.look(1) == 1, !answer || !black);
            }
        }
    }

    // Promise 3: code

    @Sentence("That line is CODED behind the OUTPUT; it is the line above then, and the next one is white: how many bits it took.")
    private static void promise03LineIsCoded() {
        DotLines x = new DotLines(20);
        paintRow(x, "..........#####.....");
        due("code() of the first line", code(x), 13);
        due("code() of a white line below it", code(x), 5);
        due("code() of a white line below that", code(x), 1);
        paintRow(x, "...................#");
        due("code() of one more", code(x), 4);
        paintRow(x, "...................#");
        due("code() of the same again", code(x), 2);
        dueBits("OUTPUT", bits(x, 0), "001 00111 0011 1" + "0001 1" + "1" + "010 1" + "1 1");
        due("lines", x.look(5), 5);
    }

    @Sentence("how many bits it took.")
    private static void promise03HowManyBits() {
        DotLines x = new DotLines(10000);
        due("the fewest", code(x), 1);
        for (int i = 0; i < 100; i++) {
            x.paint(100 * i + 10, 50, true);
        }
        int want = 3 + 5 + 12 + 99 * (3 + 8 + 12) + 1;
        due("many", code(x), want);
        due("look(1)", x.look(1), 1 + want);
        due("a white line below them", code(x), 100 * 4 + 1);
    }

    @Sentence("IllegalStateException if the OUTPUT is closed, or would have more than 524288 bits.")
    private static void promise03ThrowsIfClosed() {
        DotLines x = withCoded("...###....");
        close(x);
        due("code()", code(x), THROWS);
        due("code() again", code(x), THROWS);
        x.clear();
        due("code() when it is closed no more", code(x), 1);
        DotLines empty = new DotLines(10);
        close(empty);
        due("code() when closed without a line", code(empty), THROWS);
        DotLines full = filled(MOST_BITS - 24);
        close(full);
        due("code() when closed and full", code(full), THROWS);
    }

    @Sentence("IllegalStateException if the OUTPUT is closed, or would have more than 524288 bits.")
    private static void promise03ThrowsBeyond524288Bits() {
        DotLines x = filled(MOST_BITS - 1);
        due("code() of the last bit", code(x), 1);
        due("look(1)", x.look(1), MOST_BITS);
        due("the last part", x.out(8191), -1);
        due("code() of one bit more", code(x), THROWS);
        x.clear();
        due("code() when it is empty again", code(x), 1);
        int need = 3 + Tables.run(5000, false).length() + 3 + 1;
        for (int room = 0; room <= need + 1; room++) {
            DotLines near = filled(MOST_BITS - room);
            near.paint(5000, 1, true);
            due("code() of " + need + " bits where " + room + " have room", code(near), room < need ? THROWS : need);
            due("look(1)", near.look(1), MOST_BITS - room + (room < need ? 0 : need));
        }
    }

    @Sentence("That line is CODED behind the OUTPUT;")
    private static void promise03CodedIntoTheLastPart() {
        DotLines like = new DotLines(10000);
        like.paint(5000, 1, true);
        int need = code(like);
        for (int room = 64; room <= 64 + need; room++) {
            DotLines x = filled(MOST_BITS - room);
            x.paint(5000, 1, true);
            due("code() where " + room + " bits have room", code(x), need);
            due("its bits", bits(x, MOST_BITS - room), bits(like, 0));
        }
    }

    // Promise 4: close

    @Sentence("Two ENDs and as many 0s as fill the last byte come behind the OUTPUT, and it is closed: how many bytes it has.")
    private static void promise04TwoEndsAnd0sFillTheLastByte() {
        for (int n = 0; n <= 17; n++) {
            DotLines x = new DotLines(10);
            for (int i = 0; i < n; i++) {
                code(x);
            }
            int fill = (8 - n % 8) % 8;
            due("close() behind " + n + " bits", close(x), (n + 24 + fill) / 8);
            dueBits("OUTPUT", bits(x, 0), "1".repeat(n) + END + END + "0".repeat(fill));
            due("look(1)", x.look(1), n + 24 + fill);
            due("look(2)", x.look(2), 1);
            due("look(5)", x.look(5), n);
        }
    }

    @Sentence("IllegalStateException as for code().")
    private static void promise04ThrowsIfClosed() {
        DotLines x = new DotLines(10);
        due("close() of nothing", close(x), 3);
        due("close() again", close(x), THROWS);
        due("close() once more", close(x), THROWS);
        due("look(1)", x.look(1), 24);
        x.clear();
        due("close() when it is closed no more", close(x), 3);
    }

    @Sentence("IllegalStateException as for code().")
    private static void promise04ThrowsBeyond524288Bits() {
        DotLines fits = filled(MOST_BITS - 24);
        due("close() up to the last bit", close(fits), MOST_BYTES);
        due("look(1)", fits.look(1), MOST_BITS);
        due("the last part", fits.out(8191), -1L << 24 | 0x001001);
        for (int room : new int[] {23, 22, 17, 16, 12, 11, 8, 1, 0}) {
            DotLines x = filled(MOST_BITS - room);
            due("close() where " + room + " bits have room", close(x), THROWS);
            due("look(2)", x.look(2), 0);
        }
        for (int before = 25; before <= 32; before++) {
            due("close() with 0s, " + before + " bits ahead of the last", close(filled(MOST_BITS - before)),
                before < 32 ? MOST_BYTES : MOST_BYTES - 1);
        }
    }

    // Promise 5: clear

    @Sentence("The OUTPUT is empty and not closed, the line that is being made and the one above are white.")
    private static void promise05OutputIsEmptyAndNotClosed() {
        DotLines x = withCoded("...###....", ".#........");
        close(x);
        x.clear();
        for (int which : new int[] {1, 2, 5, 6, 7, 8}) {
            due("look(" + which + ")", x.look(which), 0);
        }
        due("out(0)", x.out(0), 0);
        due("turn(1)", turn(x, 1), THROWS);
        due("code()", code(x), 1);
        due("out(0) then", x.out(0), 1L << 63);
        DotLines fresh = new DotLines(10);
        fresh.clear();
        due("look(1) of what was empty", fresh.look(1), 0);
        due("close() of it", close(fresh), 3);
        fresh.clear();
        fresh.clear();
        due("look(2) when cleared twice", fresh.look(2), 0);
        DotLines full = filled(MOST_BITS);
        full.clear();
        due("look(1) of what was full", full.look(1), 0);
        for (int k = 0; k < 8192; k++) {
            due("out(" + k + ") of what was full", full.out(k), 0);
        }
        due("close() of what was full", close(full), 3);
        due("out(0)", full.out(0), 0x001001L << 40);
    }

    @Sentence("The OUTPUT is empty and not closed, the line that is being made and the one above are white.")
    private static void promise05NoBitIsLeft() {
        for (int n = 1; n <= 130; n++) {
            DotLines x = new DotLines(10);
            for (int i = 0; i < n; i++) {
                code(x);
            }
            x.clear();
            for (int k = 0; k <= 3; k++) {
                due("out(" + k + ") of what had " + n + " bits", x.out(k), 0);
            }
            close(x);
            due("out(0) when closed", x.out(0), 0x001001L << 40);
            due("out(1) when closed", x.out(1), 0);
        }
    }

    @Sentence("the line that is being made and the one above are white.")
    private static void promise05LinesAreWhite() {
        DotLines made = new DotLines(10);
        paintRow(made, "...###....");
        made.clear();
        due("code() of what was painted", code(made), 1);
        DotLines above = withCoded("...###....");
        above.clear();
        due("code() below what was coded", code(above), 1);
        DotLines both = withCoded("...###....");
        paintRow(both, ".#......#.");
        both.clear();
        due("code() of the first", code(both), 1);
        due("code() of the second", code(both), 1);
    }

    @Sentence("The OUTPUT is empty and not closed, the line that is being made and the one above are white.")
    private static void promise05InputAndReadingStay() {
        DotLines x = withCoded("...###....", "...####...");
        close(x);
        turn(x, 0);
        x.read();
        x.clear();
        due("look(3)", x.look(3), 5);
        due("look(4)", x.look(4), 1);
        due("look(9)", x.look(9), 10);
        due("the line read last", row(x), "...###....");
        due("read() of the line below it", x.read(), 1);
        due("the line", row(x), "...####...");
    }

    // Promise 6: out

    @Sentence("The eight bytes 8 * k .. 8 * k + 7 of the OUTPUT, the first one highest (0s behind its last bit); 0 if there are none.")
    private static void promise06EightBytesTheFirstHighest() {
        DotLines x = withCoded(blackFromTo(9000, 2559, 5118), ".".repeat(9000));
        String bits = "001 000000011110 00110100 000000011110 000001100111 1 0001 1".replace(" ", "");
        due("out(0), 53 bits", x.out(0), Long.parseLong(bits, 2) << (64 - bits.length()));
        due("out(1), none", x.out(1), 0);
        x.paint(2559, 2559, true);
        code(x);
        due("out(0), 64 bits", x.out(0), Long.parseLong(bits + "00100000001", 2));
        due("out(1), 37 bits", x.out(1), Long.parseLong("1110" + "00110100" + "000000011110" + "000001100111" + "1", 2) << 27);
        due("out(2), none", x.out(2), 0);
    }

    @Sentence("(0s behind its last bit); 0 if there are none.")
    private static void promise06ZerosBehindTheLastBit() {
        DotLines x = new DotLines(10);
        for (int n = 1; n <= 130; n++) {
            code(x);
            due("out(0) of " + n + " bits", x.out(0), n >= 64 ? -1 : -1L << (64 - n));
            due("out(1) of " + n + " bits", x.out(1), n >= 128 ? -1 : n <= 64 ? 0 : -1L << (128 - n));
            due("out(2) of " + n + " bits", x.out(2), n <= 128 ? 0 : -1L << (192 - n));
        }
    }

    @Sentence("0 if there are none.")
    private static void promise06ZeroIfThereAreNone() {
        DotLines x = new DotLines(10);
        due("out(0) of nothing", x.out(0), 0);
        for (int i = 0; i < 128; i++) {
            code(x);
        }
        for (int k : new int[] {LEAST, -8192, -2, -1, 2, 3, 8191, 8192, 8193, GREATEST}) {
            due("out(" + k + ")", x.out(k), 0);
        }
        for (int k : WRAPS) {
            due("out(" + k + ")", x.out(k), 0);
        }
        DotLines full = filled(MOST_BITS);
        due("out(8191) when full", full.out(8191), -1);
        for (int k : new int[] {LEAST, -1, 8192, GREATEST}) {
            due("out(" + k + ") when full", full.out(k), 0);
        }
        for (int k : WRAPS) {
            due("out(" + k + ") when full", full.out(k), 0);
        }
    }

    // Promise 7: give

    @Sentence("The n lowest bytes of part, the highest of them first, come behind the INPUT: true;")
    private static void promise07LowestBytesTheHighestFirst() {
        String[] rows = {"..####..#...##.#....", ".#..####....#....###", "#.#.#.#.............", "....................",
            "####.####.####.####.", "...................#"};
        DotLines coded = withCoded(rows);
        int bytes = close(coded);
        for (int n = 1; n <= 8; n++) {
            DotLines x = new DotLines(20);
            for (int i = 0; i < bytes; i += n) {
                // What stands in the part above its n lowest bytes must not count.
                long part = -1;
                for (int k = i; k < i + n; k++) {
                    part = part << 8 | (coded.out(k / 8) >>> (56 - 8 * (k % 8)) & 0xFF);
                }
                due("give(" + part + ", " + n + ")", x.give(part, n), true);
                due("look(3)", x.look(3), i + n);
            }
            for (String row : rows) {
                due("read() of what came " + n + " bytes at a time", x.read(), 1);
                due("the line", row(x), row);
            }
            due("read()", x.read(), 0);
        }
        DotLines ends = new DotLines(10);
        due("give(.., 3)", ends.give(0xFFFFFFFFFF001001L, 3), true);
        due("read() of two ENDs", ends.read(), 0);
        DotLines two = new DotLines(10);
        due("give(.., 1)", two.give(0x7700, 1), true);
        due("give(.., 8)", two.give(0x1001FFFFFFFFFFFFL, 8), true);
        due("look(3)", two.look(3), 9);
        due("read() of two ENDs", two.read(), 0);
    }

    @Sentence("The n lowest bytes of part, the highest of them first, come behind the INPUT: true;")
    private static void promise07LeastAndGreatestPart() {
        DotLines least = new DotLines(10);
        due("give(least, 8)", least.give(Long.MIN_VALUE, 8), true);
        due("read() of 1000..", least.read(), 1);
        due("read() of 000..", least.read(), -2);
        due("look(9)", least.look(9), 1);
        DotLines greatest = new DotLines(10);
        due("give(greatest, 8)", greatest.give(Long.MAX_VALUE, 8), true);
        due("read() of 0111..", greatest.read(), -4);
        DotLines low = new DotLines(10);
        due("give(greatest, 7)", low.give(Long.MAX_VALUE, 7), true);
        due("read() of 1111..", low.read(), 1);
        DotLines none = new DotLines(10);
        due("give(least, 7)", none.give(Long.MIN_VALUE, 7), true);
        due("read() of 0000..", none.read(), -2);
        due("look(3)", none.look(3), 7);
    }

    @Sentence("false if n is not 1 .. 8, or there is no room.")
    private static void promise07FalseIfNIsNot1To8() {
        DotLines x = new DotLines(10);
        for (int n : new int[] {LEAST, -8, -1, 0, 9, 10, 64, GREATEST}) {
            due("give(-1, " + n + ")", x.give(-1, n), false);
        }
        for (int n : WRAPS) {
            due("give(-1, " + n + ")", x.give(-1, n), false);
        }
        due("look(3)", x.look(3), 0);
        due("read()", x.read(), -1);
        due("give(-1, 1)", x.give(-1, 1), true);
        due("give(-1, 8)", x.give(-1, 8), true);
        due("look(3)", x.look(3), 9);
    }

    @Sentence("false if n is not 1 .. 8, or there is no room.")
    private static void promise07FalseIfThereIsNoRoom() {
        for (int room = 0; room <= 9; room++) {
            for (int n = 1; n <= 8; n++) {
                DotLines x = fed(MOST_BYTES - room);
                due("give() of " + n + " where " + room + " have room", x.give(-1, n), n <= room);
                due("look(3)", x.look(3), MOST_BYTES - room + (n <= room ? n : 0));
            }
        }
        DotLines full = fed(MOST_BYTES);
        due("give() when full", full.give(0, 1), false);
        due("read() when full", full.read(), 1);
        full.wipe();
        due("give() when wiped", full.give(0, 1), true);
    }

    @Sentence("The n lowest bytes of part, the highest of them first, come behind the INPUT: true;")
    private static void promise07IntoTheLastBytes() {
        for (int n : new int[] {1, 4, 7}) {
            DotLines x = new DotLines(10);
            x.give(-1, n);
            for (int i = 0; i < 8190; i++) {
                x.give(-1, 8);
            }
            due("give() ahead of the last one", x.give(-1L << 24 | 0x001001, 8), true);
            due("give() of the last bytes", x.give(-1, 8 - n), true);
            due("look(3)", x.look(3), MOST_BYTES);
            int lines = MOST_BITS - 8 * (8 - n) - 24;
            for (int i = 0; i < lines; i++) {
                x.read();
            }
            due("look(4)", x.look(4), lines);
            due("read() of two ENDs", x.read(), 0);
            due("look(9)", x.look(9), lines + 24);
        }
    }

    // Promise 8: turn

    @Sentence("The INPUT becomes a copy of the OUTPUT (its last byte filled with 0s) without its first n bytes: how many bytes it has; reading begins anew.")
    private static void promise08InputIsACopyOfTheOutput() {
        DotLines x = withCoded("...###....", "...####...");
        x.give(-1, 8);
        x.read();
        x.read();
        due("turn(0)", turn(x, 0), 2);
        due("look(3)", x.look(3), 2);
        due("look(4)", x.look(4), 0);
        due("look(9)", x.look(9), 0);
        due("the line read last", row(x), "..........");
        due("look(1) stays", x.look(1), 15);
        x.clear();
        due("read() behind clear()", x.read(), 1);
        due("the line", row(x), "...###....");
        due("read()", x.read(), 1);
        due("the line", row(x), "...####...");
        due("turn(0) of nothing", turn(x, 0), 0);
        due("look(3)", x.look(3), 0);
        due("read() of nothing", x.read(), -1);
        due("give() behind it", x.give(0x80, 1), true);
        due("OUTPUT stays", x.look(1), 0);
    }

    @Sentence("(its last byte filled with 0s)")
    private static void promise08LastByteIsFilledWith0s() {
        for (int n = 1; n <= 17; n++) {
            DotLines x = new DotLines(10);
            for (int i = 0; i < n; i++) {
                code(x);
            }
            due("turn(0) of " + n + " bits", turn(x, 0), (n + 7) / 8);
            x.give(0x01, 1);
            // 0s up to the byte's end, then seven more and a 1: no word where there are at most 10 0s.
            for (int i = 0; i < n; i++) {
                due("read()", x.read(), 1);
            }
            int zeros = (8 - n % 8) % 8 + 7;
            due("read() of " + zeros + " 0s and a 1", x.read(), zeros == 11 ? -1 : -2);
            due("look(9)", x.look(9), zeros == 11 ? n + 12 : n);
            due("OUTPUT stays", x.look(1), n);
        }
    }

    @Sentence("without its first n bytes: how many bytes it has; reading begins anew.")
    private static void promise08WithoutItsFirstBytes() {
        DotLines x = new DotLines(10);
        for (int i = 0; i < 160; i++) {
            code(x);
        }
        paintRow(x, ".........#");
        code(x);
        paintRow(x, "........##");
        code(x);
        int bytes = (x.look(1) + 7) / 8;
        due("bytes", bytes, 21);
        for (int n = 0; n <= 20; n++) {
            due("turn(" + n + ")", turn(x, n), bytes - n);
            due("look(3)", x.look(3), bytes - n);
            for (int i = 8 * n; i < 160; i++) {
                due("read() of a white line", x.read(), 1);
            }
            due("the line", row(x), "..........");
            due("read()", x.read(), 1);
            due("the line", row(x), ".........#");
            due("read()", x.read(), 1);
            due("the line", row(x), "........##");
            due("look(4)", x.look(4), 162 - 8 * n);
        }
        due("turn() of all", turn(x, bytes), 0);
        due("look(3)", x.look(3), 0);
        due("read() of nothing", x.read(), -1);
    }

    @Sentence("IllegalArgumentException if n is below 0 or more than there are.")
    private static void promise08ThrowsBelow0OrMoreThanThereAre() {
        DotLines empty = new DotLines(10);
        due("turn(0) of nothing", turn(empty, 0), 0);
        DotLines x = new DotLines(10);
        for (int bits = 0; bits <= 17; bits++) {
            int bytes = (bits + 7) / 8;
            due("turn() of all the bytes of " + bits + " bits", turn(x, bytes), 0);
            for (int n : new int[] {LEAST, -8, -1, bytes + 1, bytes + 8, GREATEST}) {
                due("turn(" + n + ") of " + bits + " bits", turn(x, n), THROWS);
            }
            code(x);
        }
        for (int n : WRAPS) {
            due("turn(" + n + ")", turn(x, n), THROWS);
        }
        close(x);
        due("turn() of all when closed", turn(x, 6), 0);
        due("turn() of one more when closed", turn(x, 7), THROWS);
    }

    @Sentence("The INPUT becomes a copy of the OUTPUT (its last byte filled with 0s) without its first n bytes")
    private static void promise08OfAFullOutput() {
        DotLines x = filled(MOST_BITS - 24);
        close(x);
        due("turn(0)", turn(x, 0), MOST_BYTES);
        due("give() behind it", x.give(0, 1), false);
        due("turn(1)", turn(x, 1), MOST_BYTES - 1);
        due("give() behind it", x.give(0, 1), true);
        due("turn(65533)", turn(x, MOST_BYTES - 3), 3);
        due("read() of two ENDs", x.read(), 0);
        due("look(9)", x.look(9), 24);
        due("turn(65534)", turn(x, MOST_BYTES - 2), 2);
        due("read() of 0001..", x.read(), -3);
        due("turn(65535)", turn(x, MOST_BYTES - 1), 1);
        due("turn(65536)", turn(x, MOST_BYTES), 0);
        due("turn(65537)", turn(x, MOST_BYTES + 1), THROWS);
    }

    @Sentence("The INPUT becomes a copy of the OUTPUT (its last byte filled with 0s) without its first n bytes")
    private static void promise08OfEveryByteOfAFullOutput() {
        DotLines x = new DotLines(10);
        int lines = MOST_BITS - 24;
        for (int i = 0; i < lines; i++) {
            code(x);
        }
        due("close()", close(x), MOST_BYTES);
        for (int n : new int[] {0, 1, 3, 5, 7, 8}) {
            due("turn(" + n + ")", turn(x, n), MOST_BYTES - n);
            for (int i = 8 * n; i < lines; i++) {
                x.read();
            }
            due("look(4)", x.look(4), lines - 8 * n);
            due("read() of two ENDs", x.read(), 0);
            due("look(9)", x.look(9), MOST_BITS - 8 * n);
        }
    }

    // Promise 9: wipe

    @Sentence("The INPUT is empty; reading begins anew.")
    private static void promise09InputIsEmptyAndReadingBeginsAnew() {
        DotLines x = below("...###....", "0001 0001");
        x.read();
        x.wipe();
        due("look(3)", x.look(3), 0);
        due("look(4)", x.look(4), 0);
        due("look(9)", x.look(9), 0);
        due("the line read last", row(x), "..........");
        due("change(-1)", x.change(-1), 0);
        due("read() of nothing", x.read(), -1);
        x.wipe();
        giveBits(x, "0001 1111");
        due("look(3)", x.look(3), 1);
        due("read() of a PASS, the line above being white", x.read(), -3);
        x.wipe();
        x.wipe();
        giveBits(x, "1111 1111");
        due("read() when wiped twice", x.read(), 1);
    }

    @Sentence("The INPUT is empty; reading begins anew.")
    private static void promise09OfAnEmptyAndOfAFullInput() {
        DotLines empty = new DotLines(10);
        empty.wipe();
        due("look(3)", empty.look(3), 0);
        due("read()", empty.read(), -1);
        DotLines full = fed(MOST_BYTES);
        full.wipe();
        due("look(3)", full.look(3), 0);
        due("read()", full.read(), -1);
        full.wipe();
        due("give()", full.give(0, 8), true);
        due("read() of 0s alone", full.read(), -2);
        DotLines coded = withCoded("...###....");
        close(coded);
        turn(coded, 0);
        coded.wipe();
        due("OUTPUT stays", coded.look(1), 40);
        due("closed stays", coded.look(2), 1);
    }

    // Promise 10: rewind

    @Sentence("Reading begins anew at the INPUT's first bit, the line above being white; no line has been read.")
    private static void promise10ReadingBeginsAnew() {
        DotLines x = given(10, "001 1000 10 1 0001 1" + END + END);
        for (int round = 0; round < 3; round++) {
            due("read()", x.read(), 1);
            due("the line", row(x), "...###....");
            due("read()", x.read(), 1);
            due("the line", row(x), "..........");
            due("read()", x.read(), 0);
            due("look(4)", x.look(4), 2);
            x.rewind();
            due("look(4)", x.look(4), 0);
            due("look(9)", x.look(9), 0);
            due("look(3)", x.look(3), 5);
        }
    }

    @Sentence("the line above being white; no line has been read.")
    private static void promise10LineAboveIsWhiteAndNoneRead() {
        DotLines x = given(10, "001 1000 10 1 0001 1");
        x.read();
        x.rewind();
        due("the line read last", row(x), "..........");
        due("black(3)", black(x, 3), 0);
        due("change(-1)", x.change(-1), 0);
        due("change(0)", x.change(0), -1);
        due("look(4)", x.look(4), 0);
        DotLines first = given(10, "1 0001 111");
        first.read();
        first.read();
        first.rewind();
        due("read()", first.read(), 1);
        due("read() of a PASS", first.read(), -3);
        DotLines empty = new DotLines(10);
        empty.rewind();
        due("look(9) of nothing", empty.look(9), 0);
        due("read() of nothing", empty.read(), -1);
        empty.rewind();
        empty.give(0x80, 1);
        due("read() of what came since", empty.read(), 1);
        DotLines coded = withCoded("...###....");
        coded.rewind();
        due("OUTPUT stays", coded.look(1), 10);
        due("code() below the line that was coded", code(coded), 5);
    }

    // Promise 11: read

    @Sentence("A line is READ: 1, and it is the one above then; 0 at the END; -1 .. -6 for a FAULT.")
    private static void promise11LineIsTheOneAboveThen() {
        DotLines x = given(10, "001 1000 10 1" + "011 011 1" + "1 1 1" + "0001 1" + "1" + END + END);
        String[] rows = {"...###....", "....###...", "....###...", "..........", ".........."};
        int at = 0;
        int[] took = {10, 7, 3, 5, 1};
        for (int i = 0; i < rows.length; i++) {
            at += took[i];
            due("read()", x.read(), 1);
            due("the line", row(x), rows[i]);
            due("look(9)", x.look(9), at);
            due("look(4)", x.look(4), i + 1);
        }
        due("read() at the END", x.read(), 0);
        due("look(9)", x.look(9), at + 24);
        due("look(4)", x.look(4), 5);
        due("the line", row(x), "..........");
    }

    @Sentence("0 at the END; -1 .. -6 for a FAULT.")
    private static void promise11AnswersForEachFault() {
        String[] bits = {"0000 0000", "0000 0001", "0001 1111", "0111 1111", "0010 1000", "001 00110101 0000110111 1"};
        for (int fault = 1; fault <= 6; fault++) {
            readsFirst(10, bits[fault - 1], -fault, fault == 5 ? 3 : 0);
        }
        readsFirst(10, END + END, 0, 24);
    }

    @Sentence("Behind an END or a FAULT all further calls answer the same, until reading begins anew.")
    private static void promise11FurtherCallsAnswerTheSame() {
        String[] bits = {END + END, "0", "1 0000000", "1 1 0001", "1 1 011", "001 01000", "001 00110101 0000110111"};
        for (int fault = 0; fault <= 6; fault++) {
            DotLines x = below("...###....", bits[fault]);
            due("read()", x.read(), -fault);
            int at = x.look(9);
            int lines = x.look(4);
            for (int i = 0; i < 3; i++) {
                due("read() again", x.read(), -fault);
                due("look(9)", x.look(9), at);
                due("look(4)", x.look(4), lines);
                due("the line", row(x), "...###....");
            }
            x.rewind();
            due("read() when rewound", x.read(), 1);
            due("look(4)", x.look(4), 1);
        }
    }

    @Sentence("until reading begins anew.")
    private static void promise11UntilReadingBeginsAnew() {
        DotLines x = withCoded("...###....");
        due("read() of nothing", x.read(), -1);
        due("turn(0)", turn(x, 0), 2);
        due("read() behind turn()", x.read(), 1);
        due("read()", x.read(), -1);
        x.wipe();
        x.give(0x80, 1);
        due("read() behind wipe()", x.read(), 1);
        due("read()", x.read(), -1);
        x.rewind();
        due("read() behind rewind()", x.read(), 1);
        due("read()", x.read(), -1);
        due("turn(9)", turn(x, 9), THROWS);
        due("read() behind a turn() that threw", x.read(), -1);
        x.clear();
        due("read() behind clear()", x.read(), -1);
        code(x);
        close(x);
        due("read() behind code() and close()", x.read(), -1);
    }

    @Sentence("(More INPUT does not change that.)")
    private static void promise11MoreInputDoesNotChangeThat() {
        DotLines x = new DotLines(10);
        due("read() of nothing", x.read(), -1);
        due("give()", x.give(-1, 8), true);
        due("read()", x.read(), -1);
        due("look(9)", x.look(9), 0);
        due("look(4)", x.look(4), 0);
        DotLines half = given(10, END);
        due("read() of half an END", half.read(), -1);
        giveBits(half, "0000 0001");
        due("read() with the rest of it", half.read(), -1);
        due("look(9)", half.look(9), 12);
        half.rewind();
        due("read() anew", half.read(), 0);
        giveBits(half, "1111 1111");
        due("read() behind the END", half.read(), 0);
        due("look(9)", half.look(9), 24);
        DotLines fault = given(10, "0001 1111");
        due("read() of a PASS", fault.read(), -3);
        fault.give(-1, 8);
        due("read() with more", fault.read(), -3);
        DotLines late = given(10, "1111 1111");
        for (int i = 0; i < 8; i++) {
            due("read()", late.read(), 1);
        }
        giveBits(late, "1111 1111");
        due("read() of what came in time", late.read(), 1);
    }

    // Promise 12: black

    @Sentence("Whether a dot of the line read last is black; false if there was none.")
    private static void promise12WhetherADotIsBlack() {
        for (String row : new String[] {"...###....", "#........#", "##########", "..........", "#", ".",
            blackFromTo(130, 63, 65), blackFromTo(130, 62, 129), blackFromTo(130, 129, 130), blackFromTo(64, 63, 64),
            blackFromTo(65, 64, 65), blackFromTo(10000, 9999, 10000)}) {
            DotLines x = withCoded(row);
            turn(x, 0);
            due("read()", x.read(), 1);
            for (int i = 0; i < row.length(); i++) {
                due("black(" + i + ")", black(x, i), row.charAt(i) == '#' ? 1 : 0);
            }
            due("black() of one dot more", black(x, row.length()), THROWS);
        }
    }

    @Sentence("false if there was none.")
    private static void promise12FalseIfThereWasNone() {
        DotLines x = withCoded("##########");
        allWhite(x, "of a new object");
        x.give(0x10, 1);
        due("read() of a FAULT", x.read(), -3);
        allWhite(x, "behind a FAULT in the first line");
        turn(x, 0);
        allWhite(x, "ahead of any line");
        due("read()", x.read(), 1);
        due("black(0)", black(x, 0), 1);
        x.rewind();
        allWhite(x, "behind rewind()");
        x.read();
        turn(x, 0);
        allWhite(x, "behind turn()");
        x.read();
        x.wipe();
        allWhite(x, "behind wipe()");
    }

    private static void allWhite(DotLines x, String when) {
        for (int i = 0; i < x.look(0); i++) {
            due("black(" + i + ") " + when, black(x, i), 0);
        }
        due("dots(0) " + when, x.dots(0), 0);
        due("change(-1) " + when, x.change(-1), 0);
    }

    @Sentence("IndexOutOfBoundsException if it is no dot of a line.")
    private static void promise12ThrowsIfNoDotOfALine() {
        for (int width : new int[] {1, 10, 63, 64, 65, 10000}) {
            DotLines x = withCoded("#".repeat(width));
            for (int round = 0; round < 2; round++) {
                due("black(0)", black(x, 0), round);
                due("black() of the last dot", black(x, width - 1), round);
                for (int i : new int[] {LEAST, -64, -1, width, width + 1, width + 64, 10000, GREATEST}) {
                    due("black(" + i + ")", black(x, i), THROWS);
                }
                turn(x, 0);
                due("read()", x.read(), 1);
            }
        }
    }

    // Promise 13: dots

    @Sentence("Dots 64 * k .. 64 * k + 63 of the line read last as the bits of a long, black 1, the first one highest, 0 beyond the WIDTH.")
    private static void promise13DotsAsBitsTheFirstHighest() {
        DotLines x = withCoded(blackFromTo(130, 63, 65).substring(0, 129) + "#");
        due("dots(0) ahead of any line", x.dots(0), 0);
        turn(x, 0);
        x.read();
        due("dots(0)", x.dots(0), 1);
        due("dots(1)", x.dots(1), 1L << 63);
        due("dots(2)", x.dots(2), 1L << 62);
        DotLines first = withCoded("#.#.......");
        turn(first, 0);
        first.read();
        due("dots(0)", first.dots(0), 0b101L << 61);
    }

    @Sentence("0 beyond the WIDTH.")
    private static void promise13ZeroBeyondTheWidth() {
        for (int width : new int[] {1, 2, 10, 63, 64, 65, 100, 127, 128, 129, 9984, 9985, 10000}) {
            DotLines x = withCoded("#".repeat(width));
            turn(x, 0);
            x.read();
            int last = (width - 1) / 64;
            due("the last part of " + width, x.dots(last), -1L << (63 - (width - 1) % 64));
            due("the one ahead of it", x.dots(last - 1), last == 0 ? 0 : -1);
            for (int k : new int[] {LEAST, -2, -1, last + 1, last + 2, 157, 158, GREATEST}) {
                due("dots(" + k + ") of " + width, x.dots(k), 0);
            }
            for (int k : WRAPS) {
                due("dots(" + k + ") of " + width, x.dots(k), 0);
            }
        }
    }

    // Promise 14: change

    @Sentence("Of the line read last (a white one ahead of any): the i-th change, from 0 on, that is a dot; how many, if i is -1. NONE if there is none such.")
    private static void promise14ChangesFrom0On() {
        String row = "##" + blackFromTo(128, 61, 62).substring(0, 127) + "#";
        DotLines x = withCoded(row);
        turn(x, 0);
        x.read();
        int[] places = {0, 2, 63, 64, 129};
        due("change(-1)", x.change(-1), places.length);
        for (int i = 0; i < places.length; i++) {
            due("change(" + i + ")", x.change(i), places[i]);
        }
        due("change(5)", x.change(5), -1);
    }

    @Sentence("(a white one ahead of any)")
    private static void promise14WhiteLineAheadOfAny() {
        DotLines x = withCoded("##########");
        due("change(-1) ahead of any", x.change(-1), 0);
        due("change(0) ahead of any", x.change(0), -1);
        turn(x, 0);
        x.read();
        due("change(-1)", x.change(-1), 1);
        due("change(0)", x.change(0), 0);
        x.rewind();
        due("change(-1) behind rewind()", x.change(-1), 0);
        due("change(0) behind rewind()", x.change(0), -1);
    }

    @Sentence("the i-th change, from 0 on, that is a dot;")
    private static void promise14ThatIsADot() {
        String[] rows = {"..........", "##########", ".........#", "#.........", "#.#.#.#.#.", ".#.#.#.#.#", "#", ".",
            "#".repeat(64), ".".repeat(63) + "#", "#".repeat(65), ".".repeat(64) + "#"};
        int[] counts = {0, 1, 1, 2, 10, 9, 1, 0, 1, 1, 1, 1};
        for (int i = 0; i < rows.length; i++) {
            DotLines x = withCoded(rows[i]);
            turn(x, 0);
            x.read();
            due("change(-1) of " + rows[i], x.change(-1), counts[i]);
            due("the last one", x.change(counts[i] - 1) < rows[i].length(), true);
            due("one more", x.change(counts[i]), -1);
        }
        DotLines joined = below("..........", "001 1000 0000110111 001 0111 11 1" + "001 00110101 0011 1");
        joined.read();
        due("change(-1) with a RUN of 0 dots", joined.change(-1), 2);
        due("change(0)", joined.change(0), 5);
    }

    @Sentence("NONE if there is none such.")
    private static void promise14NoneIfThereIsNoneSuch() {
        DotLines x = withCoded("...###....");
        for (int round = 0; round < 2; round++) {
            for (int i : new int[] {LEAST, -3, -2, 2, 3, 9, 10, 11, 10000, GREATEST}) {
                due("change(" + i + ")", x.change(i), -1);
            }
            for (int i : WRAPS) {
                due("change(" + i + ")", x.change(i), -1);
            }
            turn(x, 0);
            x.read();
        }
        due("change(1)", x.change(1), 6);
        DotLines most = withCoded("#.".repeat(5000));
        turn(most, 0);
        most.read();
        due("change(-1) of the most changes", most.change(-1), 10000);
        due("change(9999)", most.change(9999), 9999);
        due("change(10000)", most.change(10000), -1);
    }

    // Promise 15: look

    @Sentence("which 0: WIDTH, 1: bits of OUTPUT, 2: 1 if it is closed, 3: bytes of INPUT, 4: lines read, 5: lines coded, 6: words of OUTPUT that were PASS, 7: SHIFT, 8: ACROSS")
    private static void promise15EachWhich() {
        DotLines x = withCoded(".....###............", "....................", "..................#.");
        looks(x, 20, 10 + 5 + 10, 0, 0, 0, 3, 1, 5, 1, 0);
        due("close()", close(x), 7);
        looks(x, 20, 56, 1, 0, 0, 3, 1, 5, 1, 0);
        due("turn(0)", turn(x, 0), 7);
        looks(x, 20, 56, 1, 7, 0, 3, 1, 5, 1, 0);
        x.read();
        x.read();
        looks(x, 20, 56, 1, 7, 2, 3, 1, 5, 1, 15);
        x.give(0, 2);
        looks(x, 20, 56, 1, 9, 2, 3, 1, 5, 1, 15);
    }

    private static void looks(DotLines x, int... want) {
        for (int which = 0; which < 10; which++) {
            due("look(" + which + ")", x.look(which), want[which]);
        }
    }

    @Sentence("(5 to 8 since the last clear())")
    private static void promise15SinceTheLastClear() {
        DotLines x = withCoded(".....###............", "....................", "..................#.");
        x.clear();
        looks(x, 20, 0, 0, 0, 0, 0, 0, 0, 0, 0);
        paintRow(x, ".....###............");
        code(x);
        looks(x, 20, 10, 0, 0, 0, 1, 0, 1, 1, 0);
        close(x);
        due("lines when closed", x.look(5), 1);
        due("SHIFTs when closed", x.look(7), 1);
        code(x);
        due("lines when refused", x.look(5), 1);
        DotLines read = withCoded("...###....");
        turn(read, 0);
        read.read();
        read.wipe();
        read.rewind();
        due("lines coded behind wipe() and rewind()", read.look(5), 1);
    }

    @Sentence("9: at which bit reading goes on (behind a line, behind the END; at a FAULT the first bit of the word that it is about, for 6 that of ACROSS, for 1 of the word that is not whole).")
    private static void promise15WhereReadingGoesOn() {
        reads("..........", "010 1 1", 1, 4, ".........#");
        reads("..........", END + END + "1", 0, 24, "..........");
        faults("..........", "010 00000", 1, 3);
        faults("..........", "010", 1, 3);
        faults("..........", "010 0000000", 2, 3);
        faults("..........", END + "1", 2, 12);
        faults("..........", "010 0001", 3, 3);
        faults("..........", "010 010", 4, 3);
        faults("..........", "001 1000 000101", 5, 7);
        faults(".".repeat(100), "001 11011 11011", 5, 8);
        faults("..........", "010 001 0000110111 00110101", 6, 3);
        faults("..........", "001 1000 0", 1, 7);
        faults("..........", END + "0", 1, 12);
    }

    @Sentence("NONE for any other which.")
    private static void promise15NoneForAnyOther() {
        DotLines x = withCoded("...###....");
        for (int which : new int[] {LEAST, -2, -1, 10, 11, 100, GREATEST}) {
            due("look(" + which + ")", x.look(which), -1);
        }
        due("look(0)", x.look(0), 10);
        due("look(9)", x.look(9), 0);
    }

    // The two ways go side by side

    @Sentence("OUTPUT are the bits coded so far, INPUT those that are read;")
    private static void promise07To15CodingStaysAsItIs() {
        codingStays("give()", x -> x.give(-1, 8));
        codingStays("turn()", x -> turn(x, 0));
        codingStays("turn(), read()", x -> {
            turn(x, 0);
            x.read();
            due("the line", row(x), "..##......");
        });
        codingStays("wipe()", x -> x.wipe());
        codingStays("rewind()", x -> x.rewind());
        codingStays("read() of nothing", x -> x.read());
        codingStays("read() of a line", x -> {
            x.give(0x58, 1);
            x.read();
            due("the line", row(x), ".........#");
        });
        codingStays("read() of the END", x -> {
            x.give(0x001001, 3);
            due("read()", x.read(), 0);
        });
        codingStays("read() of a FAULT", x -> {
            x.give(0x10, 1);
            due("read()", x.read(), -3);
        });
        codingStays("what asks", x -> {
            x.out(0);
            black(x, 3);
            x.dots(0);
            x.change(-1);
            x.look(1);
        });
    }

    /** A line half made below another one is coded as it would be without the calls. */
    private static void codingStays(String what, Consumer<DotLines> calls) {
        DotLines x = withCoded("..##......");
        int before = x.look(1);
        x.paint(2, 1, true);
        calls.accept(x);
        due("look(1) behind " + what, x.look(1), before);
        due("look(5) behind " + what, x.look(5), 1);
        due("paint() behind " + what, x.paint(3, 2, true), true);
        due("code() behind " + what, code(x), 5);
        dueBits("its bits behind " + what, bits(x, before), "1 011 1");
        due("close() behind " + what, close(x), (before + 5 + 24 + 7) / 8);
    }

    @Sentence("OUTPUT are the bits coded so far, INPUT those that are read;")
    private static void promise02To06ReadingStaysAsItIs() {
        readingStays("paint()", x -> x.paint(0, 10, true));
        readingStays("code()", x -> {
            x.paint(0, 5, true);
            code(x);
        });
        readingStays("close()", x -> close(x));
        readingStays("clear()", x -> x.clear());
        readingStays("clear(), code()", x -> {
            x.clear();
            x.paint(7, 1, true);
            code(x);
            code(x);
        });
        readingStays("code() that throws", x -> {
            close(x);
            due("code()", code(x), THROWS);
        });
        readingStays("what asks", x -> {
            x.out(0);
            black(x, 3);
            x.dots(0);
            x.change(-1);
            x.look(1);
        });
    }

    /** A picture half read goes on as it would without the calls. */
    private static void readingStays(String what, Consumer<DotLines> calls) {
        DotLines x = withCoded("..##......", "..###.....", "..####....");
        turn(x, 0);
        x.read();
        int bytes = x.look(3);
        int at = x.look(9);
        calls.accept(x);
        due("look(3) behind " + what, x.look(3), bytes);
        due("look(4) behind " + what, x.look(4), 1);
        due("look(9) behind " + what, x.look(9), at);
        due("the line behind " + what, row(x), "..##......");
        due("read() behind " + what, x.read(), 1);
        due("the line below", row(x), "..###.....");
        due("read()", x.read(), 1);
        due("the line below that", row(x), "..####....");
    }
}

/** The Terms' sentences on lines, CODING and BITS: a test for each, at its boundaries. */
public final class CodingTest extends Check {
    public static void main(String[] args) throws Exception {
        runTests(CodingTest.class);
    }

    // lines and changes

    @Sentence("LINES have as many dots as the WIDTH, each white or black;")
    private static void linesHaveAsManyDotsAsTheWidth() {
        for (int width : new int[] {1, 2, 63, 64, 65, 9999, 10000}) {
            dueBits("all dots black, of " + width, coded("#".repeat(width)),
                width <= 3 ? Tables.SHIFTS[3 - width] + "1" : "001 00110101" + Tables.run(width, true));
            dueBits("the last dot black, of " + width, coded(blackFromTo(width, width - 1, width)), "010 1");
        }
    }

    @Sentence("An object is used for at most 512 calls after it has been made;")
    private static void call512Answers() {
        DotLines x = new DotLines(10000);
        for (int i = 0; i < 255; i++) {
            x.paint(4900 + i, 200, true);
            due("code() of line " + i, code(x), i == 0 ? 3 + (12 + 12 + 8) + (12 + 6) + 1 : 3 + 3 + 1);
        }
        due("look(5), call 511", x.look(5), 255);
        due("close(), call 512", close(x), (54 + 254 * 7 + 24 + 7) / 8);
    }

    @Sentence("the line above the first one is white.")
    private static void lineAboveTheFirstIsWhite() {
        dueBits("a white line", coded(".........."), "1");
        dueBits("black dots, far from all", coded("...###...."), "001 1000 10 1");
        DotLines x = withCoded("...###....", "..........");
        x.clear();
        dueBits("nothing", bits(x, 0), "");
        code(x);
        dueBits("a white line behind clear()", bits(x, 0), "1");
    }

    @Sentence("A CHANGE of a line is a dot that has not the colour of the dot to its left (of white, for the first dot)")
    private static void changeOfTheFirstDot() {
        dueBits("a black first dot above is a change", coded("#.........", "#........."), "1 1 1");
        dueBits("a white first dot above is none", coded(".#........", "#........."), "010 010 1");
        dueBits("a black line above has that change alone", coded("##########", "##########"), "1 1");
        dueBits("the last dot can be one", coded(".........#", ".........#"), "1 1");
    }

    @Sentence("behind the last dot there is one more place, number WIDTH, which is what is found wherever a dot or change is looked for and there is none.")
    private static void whatIsNotFoundIsAtTheWidth() {
        dueBits("a1, b1 and b2", coded("...................."), "1");
        dueBits("b1, where a1 is three left of it", coded(".................###"), "0000010 1");
        dueBits("b1, where a1 is four left of it", coded("................####"), "001 101010 011");
        dueBits("a1, where b1 is three left of it", coded(".................###", "...................."), "0000011");
        dueBits("a1 and b2, where b1 is four left of it: no PASS", coded("................####", "...................."),
            "001 0001000 0000110111");
        dueBits("a2", coded("..........##########"), "001 00111 0000100");
    }

    // CODING

    @Sentence("CODING a line: a is -1 at first, the COLOUR white.")
    private static void aIsAheadOfTheFirstDotAtFirst() {
        dueBits("a1 is dot 0", coded("#..................."), "001 00110101 010 1");
        dueBits("b1 is dot 0", coded("#...................", "...................."), "0001 1");
        dueBits("a1 and b1 are dot 0", coded("##..................", "##.................."), "1 1 1");
        dueBits("a black line of one dot", coded("#"), "010 1");
        dueBits("a black line of one dot below the same", coded("#", "#"), "1 1");
        dueBits("a white line of one dot below a black one", coded("#", "."), "011");
    }

    @Sentence("As long as a is less than the WIDTH:")
    private static void codingEndsAtTheWidth() {
        dueBits("a SHIFT to the WIDTH is the last word", coded(".........."), "1");
        dueBits("an ACROSS to the WIDTH is the last word", coded("..........##########"), "001 00111 0000100");
        dueBits("behind a SHIFT to the last dot comes a word", coded(".........#"), "010 1");
        dueBits("behind an ACROSS to the last dot comes a word", coded("..........#########."), "001 00111 000100 1");
        dueBits("behind a PASS to the last dot comes a word", coded("........#.", ".........."), "0001 1");
    }

    @Sentence("a1 is the first dot right of a that has not the COLOUR.")
    private static void a1IsRightOfA() {
        dueBits("behind a SHIFT", coded("....#####...........", "....#..............."), "1 001 010 110101");
        dueBits("behind an ACROSS", coded("....#....#.........."), "001 1011 010 001 1011 010 1");
        dueBits("behind a PASS", coded(".##.................", "....#..............."), "0001 001 000111 010 1");
    }

    @Sentence("b1 is the first change right of a, in the line above, whose dot has not the COLOUR")
    private static void b1IsRightOfAAndNotOfTheColour() {
        dueBits("a change at a is not right of it", coded("..........#####...............", "..########...................."),
            "001 0111 000101 1");
        dueBits("a change one right of a is", coded("..........#####...............", "..#######....................."),
            "001 0111 00011 0001 1");
        dueBits("a change to the COLOUR does not count", coded("....######....................", "######........................"),
            "001 00110101 0010 1");
        dueBits("but the one behind it", coded("....######..##................", "######........................"),
            "001 00110101 0010 0001 1");
        dueBits("in black a change to white counts", coded("....####............", "....######.........."), "1 000011 1");
    }

    @Sentence("and b2 the first dot of that line right of b1 that has it.")
    private static void b2IsRightOfB1() {
        dueBits("one right of b1", coded("#...................", "...................#"), "0001 010 1");
        dueBits("a becomes it", coded(".....###............", ".........###........"), "0001 001 000111 10 1");
        dueBits("in black", coded("##..##..............", "##########.........."), "1 0001 001 0010 00111");
    }

    @Sentence("If b2 is left of a1: PASS; a becomes b2.")
    private static void passIfB2IsLeftOfA1() {
        dueBits("b2 is one left of a1", coded(".....###............", ".........###........"), "0001 001 000111 10 1");
        dueBits("b2 is a1", coded(".....###............", "........####........"), "0000011 001 011 10011");
        dueBits("b2 is one right of a1", coded(".....###............", ".......#####........"), "000011 001 0011 10011");
        dueBits("PASS counts ahead of a SHIFT", coded(".....#..............", ".......#............"), "0001 001 000111 010 1");
        dueBits("two of them", coded(".#.#................", "...................."), "0001 0001 1");
        dueBits("b2 is the last dot, a1 the WIDTH", coded(".................##.", "...................."), "0001 1");
        dueBits("b2 and a1 are the WIDTH", coded("..................##", "...................."), "000011");
    }

    @Sentence("Else, if a1 - b1 is -3 .. 3: SHIFT by that; a becomes a1, the COLOUR the other one.")
    private static void shiftByThreeAtMost() {
        for (int s = -3; s <= 3; s++) {
            dueBits("to black by " + s, coded(blackFromTo(20, 10, 15), blackFromTo(20, 10 + s, 15)),
                Tables.SHIFTS[s + 3] + " 1 1");
            dueBits("to white by " + s, coded(blackFromTo(20, 10, 15), blackFromTo(20, 10, 15 + s)),
                "1 " + Tables.SHIFTS[s + 3] + " 1");
        }
        dueBits("to black by -4", coded(blackFromTo(20, 10, 15), blackFromTo(20, 6, 15)), "001 1110 000100 1");
        dueBits("to black by 4", coded(blackFromTo(20, 10, 15), blackFromTo(20, 14, 15)), "001 110100 010 1");
        dueBits("to white by -4", coded(blackFromTo(20, 10, 15), blackFromTo(20, 10, 11)), "1 001 010 10100");
        dueBits("to white by 4", coded(blackFromTo(30, 10, 15), blackFromTo(30, 10, 19)), "1 001 000100 01000");
    }

    @Sentence("Else ACROSS: the RUN from a (from 0, if a is -1) to a1 in the COLOUR, and that from a1 to a2 in the other one")
    private static void acrossFromAOrFrom0() {
        dueBits("from 0, of 9 and not of 10", coded(".........##........."), "001 10100 11 1");
        dueBits("from 0, of 0", coded("##.................."), "001 00110101 11 1");
        dueBits("from a", coded(".........##....#...."), "001 10100 11 001 1011 010 1");
        dueBits("from a in black, the run to a1 black", coded("..........##########", "..........#........."), "1 001 010 10100");
    }

    @Sentence("a2 being the first dot right of a1 that has the COLOUR; a becomes a2.")
    private static void a2IsRightOfA1() {
        dueBits("one right of it", coded("....#..............."), "001 1011 010 1");
        dueBits("the last dot", coded("....###############."), "001 1011 000011000 1");
        dueBits("none, thus the WIDTH", coded("....################"), "001 1011 0000010111");
        dueBits("a1 is none: a2 too", coded("....################", "...................."), "001 0001000 0000110111");
    }

    // BITS

    @Sentence("BITS: PASS 0001; ACROSS 001 and its two RUNS; SHIFT by 0: 1, 1: 011, 2: 000011, 3: 0000011, -1: 010, -2: 000010, -3: 0000010.")
    private static void bitsOfPassAcrossAndShift() {
        dueBits("PASS", coded("...##.....", ".........."), "0001 1");
        dueBits("ACROSS", coded("...##....."), "001 1000 11 1");
        String[] by = {"0000010", "000010", "010", "1", "011", "000011", "0000011"};
        for (int s = -3; s <= 3; s++) {
            dueBits("SHIFT by " + s, coded("....######", blackFromTo(10, 4 + s, 10)), by[s + 3] + "1");
        }
    }

    @Sentence("A RUN of n dots: as long as n is 2560 or more the BLOCK 2560, n being 2560 less;")
    private static void runsOf2560AndMore() {
        String most = "000000011111";
        whiteRun(2559, "000000011110 00110100");
        whiteRun(2560, most + "00110101");
        whiteRun(2561, most + "000111");
        whiteRun(5119, most + "000000011110 00110100");
        whiteRun(5120, most + most + "00110101");
        whiteRun(5121, most + most + "000111");
        whiteRun(7679, most + most + "000000011110 00110100");
        whiteRun(7680, most + most + most + "00110101");
        whiteRun(9996, most + most + most + "000000010111" + "001000");
        blackRun(2559, "000000011110 000001100111");
        blackRun(2560, most + "0000110111");
        blackRun(2561, most + "010");
        blackRun(5119, most + "000000011110 000001100111");
        blackRun(5120, most + most + "0000110111");
        blackRun(7679, most + most + "000000011110 000001100111");
        blackRun(7680, most + most + most + "0000110111");
        blackRun(10000, most + most + most + "000000010111" + "0000010111");
        dueBits("white of 10000", coded(blackFromTo(10000, 5000, 10000), ".".repeat(10000)),
            "001" + most + most + most + "000000010111" + "101010" + "0000110111");
    }

    @Sentence("then, if it is 64 or more, the BLOCK of n less n % 64;")
    private static void runsOf64AndMore() {
        whiteRun(63, "00110100");
        whiteRun(64, "11011 00110101");
        whiteRun(65, "11011 000111");
        whiteRun(127, "11011 00110100");
        whiteRun(128, "10010 00110101");
        whiteRun(1727, "011000 00110100");
        whiteRun(1728, "010011011 00110101");
        whiteRun(1791, "010011011 00110100");
        whiteRun(1792, "00000001000 00110101");
        whiteRun(2560 + 63, "000000011111 00110100");
        whiteRun(2560 + 64, "000000011111 11011 00110101");
        blackRun(63, "000001100111");
        blackRun(64, "0000001111 0000110111");
        blackRun(65, "0000001111 010");
        blackRun(127, "0000001111 000001100111");
        blackRun(128, "000011001000 0000110111");
        blackRun(1727, "0000001100100 000001100111");
        blackRun(1728, "0000001100101 0000110111");
        blackRun(1791, "0000001100101 000001100111");
        blackRun(1792, "00000001000 0000110111");
        blackRun(2560 + 63, "000000011111 000001100111");
        blackRun(2560 + 64, "000000011111 0000001111 0000110111");
    }

    @Sentence("then the REST n % 64.")
    private static void runsEndWithTheirRest() {
        whiteRun(0, "00110101");
        whiteRun(1, "000111");
        dueBits("black of 1", coded("....#....."), "001 1011 010 1");
        dueBits("black of 0", coded("....######", ".........."), "001 00111 0000110111");
        dueBits("white of 0 behind black", coded("#####.....", "##########"), "1 001 0000100 00110101");
    }

    /** The first RUN of a line of 10000 dots that is white up to a place and black behind it. */
    private static void whiteRun(int n, String want) {
        String bits = coded(blackFromTo(10000, n, 10000));
        dueBits("white of " + n, bits, "001" + want + Tables.run(10000 - n, true));
    }

    /** The second RUN of a line of 10000 dots whose last dots are black (4 or more: else they take a SHIFT). */
    private static void blackRun(int n, String want) {
        String bits = coded(blackFromTo(10000, 10000 - n, 10000));
        dueBits("black of " + n, bits, "001" + Tables.run(10000 - n, false) + want);
    }

    @Sentence("END is 000000000001.")
    private static void bitsOfEnd() {
        DotLines x = new DotLines(10);
        close(x);
        dueBits("two ENDs", bits(x, 0), "000000000001 000000000001");
    }

    @Sentence("The RESTS 0, 1, .. 63 of white:")
    private static void theTestsHaveTheDocumentsWords() {
        standsInDocument("The RESTS 0, 1, .. 63 of white: " + String.join(" ", Tables.WHITE_RESTS) + "\n");
        standsInDocument("of black: " + String.join(" ", Tables.BLACK_RESTS) + "\n");
        standsInDocument("The BLOCKS 64, 128, .. 1728 of white: " + String.join(" ", Tables.WHITE_BLOCKS) + "\n");
        standsInDocument("of black: " + String.join(" ", Tables.BLACK_BLOCKS) + "\n");
        standsInDocument("1792, 1856, .. 2560 of both: " + String.join(" ", Tables.LONG_BLOCKS) + "\n");
    }

    @Sentence("The RESTS 0, 1, .. 63 of white: 00110101 000111 0111 1000 1011 1100 1110 1111 10011 10100")
    private static void everyWordOfWhite() {
        DotLines x = null;
        for (int n = 0; n < 2624; n++) {
            x = n % 60 == 0 ? new DotLines(2700) : x;
            x.clear();
            x.paint(n, 20, true);
            code(x);
            dueBits("white of " + n, bits(x, 0), "001" + Tables.run(n, false) + Tables.run(20, true) + "1");
        }
    }

    @Sentence("of black: 0000110111 010 11 10 011 0011 0010 00011 000101 000100 0000100 0000101 0000111 00000100")
    private static void everyWordOfBlack() {
        DotLines x = null;
        for (int n = 1; n < 2624; n++) {
            x = n % 60 == 1 ? new DotLines(2700) : x;
            x.clear();
            x.paint(10, n, true);
            code(x);
            dueBits("black of " + n, bits(x, 0), "001" + Tables.run(10, false) + Tables.run(n, true) + "1");
        }
        // of 0 dots there is one below a line that goes on in black
        dueBits("black of 0", coded("....######", ".........."), "001" + Tables.run(10, false) + Tables.run(0, true));
    }

    @Sentence("The BLOCKS 64, 128, .. 1728 of white: 11011 10010 010111 0110111 00110110 00110111 01100100")
    private static void everyBlockOfWhite() {
        for (int i = 0; i < 27; i++) {
            int n = 64 * (i + 1);
            dueBits("white of " + n, coded(blackFromTo(2700, n, n + 10)),
                "001" + Tables.WHITE_BLOCKS[i] + "00110101" + "0000100" + "1");
        }
    }

    @Sentence("of black: 0000001111 000011001000 000011001001 000001011011 000000110011 000000110100 000000110101")
    private static void everyBlockOfBlack() {
        for (int i = 0; i < 27; i++) {
            int n = 64 * (i + 1);
            dueBits("black of " + n, coded(blackFromTo(2700, 10, 10 + n)),
                "001" + "00111" + Tables.BLACK_BLOCKS[i] + "0000110111" + "1");
        }
    }

    @Sentence("1792, 1856, .. 2560 of both: 00000001000 00000001100 00000001101 000000010010 000000010011 000000010100")
    private static void everyBlockOfBoth() {
        for (int i = 0; i < 13; i++) {
            int n = 1792 + 64 * i;
            dueBits("white of " + n, coded(blackFromTo(2700, n, n + 10)),
                "001" + Tables.LONG_BLOCKS[i] + "00110101" + "0000100" + "1");
            dueBits("black of " + n, coded(blackFromTo(2700, 10, 10 + n)),
                "001" + "00111" + Tables.LONG_BLOCKS[i] + "0000110111" + "1");
        }
    }

    @Sentence("OUTPUT are the bits coded so far, INPUT those that are read; each has at most 65536 bytes, bits from the highest of each byte on.")
    private static void bitsFromTheHighestOfEachByteOn() {
        DotLines x = new DotLines(10);
        code(x);
        due("out(0) of one bit", x.out(0), 1L << 63);
        for (int i = 1; i < 8; i++) {
            code(x);
        }
        due("out(0) of eight bits", x.out(0), 0xFFL << 56);
        paintRow(x, ".........#");
        code(x);
        due("out(0) with 0101 behind them", x.out(0), 0xFF5L << 52);
        DotLines in = new DotLines(10);
        in.give(0x58, 1);
        due("read() of 0101 1000", in.read(), 1);
        due("its line", row(in), ".........#");
        due("look(9)", in.look(9), 4);
    }
}

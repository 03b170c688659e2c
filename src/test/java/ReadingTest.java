import java.util.Map;

/** The Terms' sentences on READING, its FAULTS and the END: a test for each, at its boundaries. */
public final class ReadingTest extends Check {
    private static final String WHITE = "..........";
    private static final String WHITE_0 = "00110101";
    private static final String BLACK_0 = "0000110111";

    public static void main(String[] args) throws Exception {
        runTests(ReadingTest.class);
    }

    // lines

    @Sentence("the line above the first one is white.")
    private static void lineAboveTheFirstIsWhite() {
        readsFirst(10, "0001 1111", -3, 0);
        DotLines x = given(10, "010 1 1111");
        due("read() of a SHIFT by -1", x.read(), 1);
        due("its line", row(x), ".........#");
    }

    @Sentence("READING a line is that backwards, from the bits on: a, COLOUR, b1 and b2 as above, until a is the WIDTH.")
    private static void readingEndsAtTheWidth() {
        reads(WHITE, "1 1111", 1, 1, WHITE);
        reads(WHITE, "010 1 1111", 1, 4, ".........#");
        reads(WHITE, "001 1011 0010 1111", 1, 11, "....######");
        reads(WHITE, "001 1011 0011 1111", 1, 12, "....#####.");
        reads(WHITE, "001 00111" + BLACK_0 + "1111", 1, 18, WHITE);
        reads("##########", "1 1 1111", 1, 2, "##########");
        reads("........#.", "0001 1 1111", 1, 5, WHITE);
        readsFirst(1, "1 1111111", 1, 1);
        readsFirst(1, "010 1 1111", 1, 4);
    }

    @Sentence("a, COLOUR, b1 and b2 as above")
    private static void b1AndB2AsInCoding() {
        readsLine("....######....................", "001" + WHITE_0 + "0010 1", "######........................");
        readsLine("..........#####...............", "001 0111 000101 1", "..########....................");
        readsLine("..........#####...............", "001 0111 00011 0001 1", "..#######.....................");
        readsLine("##..##..............", "1 0001 001 0010 00111", "##########..........");
        readsLine("#.........", "0001 1", WHITE);
        readsLine("#.........", "1 1 1", "#.........");
    }

    @Sentence("The dots between are of the COLOUR.")
    private static void dotsBetweenAreOfTheColour() {
        readsLine("...###....", "1 1 1", "...###....");
        readsLine("...###....", "0001 1", WHITE);
        readsLine("##..##....", "1 0001 1 1", "######....");
        readsLine(WHITE, "001 0111 10 001 000111 010 1", "..###.#...");
        readsLine("##########", "1 001 0010 1011", "######....");
    }

    @Sentence("A RUN is any BLOCKS, and a REST.")
    private static void runIsAnyBlocksAndARest() {
        String one = Tables.WHITE_BLOCKS[0];
        String oneBlack = Tables.BLACK_BLOCKS[0];
        readsLine(".".repeat(10), "001 00111" + BLACK_0, ".".repeat(10));
        readsLine(".".repeat(64), "001" + one + WHITE_0 + BLACK_0, ".".repeat(64));
        readsLine(".".repeat(128), "001" + one + one + WHITE_0 + BLACK_0, ".".repeat(128));
        readsLine(".".repeat(128), "001" + WHITE_0 + oneBlack + oneBlack + BLACK_0, "#".repeat(128));
        readsLine(".".repeat(2624), "001" + one + "000000011111" + WHITE_0 + BLACK_0, ".".repeat(2624));
        readsLine(".".repeat(2624), "001" + WHITE_0 + oneBlack + "000000011111" + BLACK_0, "#".repeat(2624));
        readsLine(".".repeat(10000), "001" + one.repeat(156) + "101010" + BLACK_0, ".".repeat(10000));
        readsLine(".".repeat(10000), "001" + WHITE_0 + oneBlack.repeat(156) + "0000010111", "#".repeat(10000));
    }

    @Sentence("The RESTS 0, 1, .. 63 of white: 00110101 000111 0111 1000 1011 1100 1110 1111 10011 10100")
    private static void everyWordOfWhiteAndOfBlack() {
        for (int n = 0; n < 2624; n++) {
            DotLines x = given(2623, "001" + Tables.run(n, false) + Tables.run(2623 - n, true));
            due("read() of white of " + n, x.read(), 1);
            due("changes", x.change(-1), n < 2623 ? 1 : 0);
            due("the first one", x.change(0), n < 2623 ? n : -1);
        }
    }

    // FAULTS

    @Sentence("1 the bits end (in a word, or before the line has ended);")
    private static void fault1TheBitsEnd() {
        faults(WHITE, "", 1, 0);
        faults(WHITE, "010", 1, 3);
        faults(WHITE, "001", 1, 3);
        faults(WHITE, "001 1000", 1, 7);
        faults(WHITE, "001 1000 10", 1, 9);
        faults(WHITE, "001 00111", 1, 8);
        faults(".".repeat(100), "001 11011", 1, 8);
        faults(".".repeat(100), "001 11011" + WHITE_0 + "0000001", 1, 16);
        faults("....#.....", "0001", 1, 4);
        faults(WHITE, "010 00000", 1, 3);
        faults(WHITE, "000001", 1, 0);
        faults(WHITE, END, 1, 12);
        readsFirst(10, "", -1, 0);
        readsFirst(10, "00000000", -1, 0);
        DotLines x = given(10, "11111111");
        for (int i = 0; i < 8; i++) {
            due("read() of a line", x.read(), 1);
        }
        due("read() behind all lines", x.read(), -1);
        due("look(9)", x.look(9), 8);
    }

    @Sentence("1 the bits end (in a word, or before the line has ended);")
    private static void fault1InEveryWord() {
        everyBeginning("", Tables.FIRST);
        everyBeginning("010", Tables.STEP);
        everyBeginning("001", Tables.WHITE);
        everyBeginning("001 1000", Tables.BLACK);
        everyBeginning("010 001", Tables.BLACK);
        everyBeginning("010 001" + BLACK_0, Tables.WHITE);
        everyBeginning(END, Tables.LAST);
    }

    private static void everyBeginning(String ahead, Map<String, Integer> words) {
        for (String bits : Tables.beginnings(words)) {
            faults(WHITE, ahead + bits, 1, ahead.replace(" ", "").length());
        }
    }

    @Sentence("2 what stands there is none of the words that can stand there;")
    private static void fault2NoWord() {
        faults(WHITE, "000000000000", 2, 0);
        faults(WHITE, "00000001", 2, 0);
        faults(WHITE, "010 0000000", 2, 3);
        faults(WHITE, "001 00000000", 2, 3);
        faults(WHITE, "001 1000 00000000", 2, 7);
        faults(".".repeat(100), "001 11011 00000000", 2, 8);
        faults(".".repeat(100), "001" + WHITE_0 + "0000001111 00000000", 2, 21);
        readsFirst(10, "00000000 00000000", -2, 0);
        readsFirst(10, "00000001", -2, 0);
    }

    @Sentence("2 what stands there is none of the words that can stand there;")
    private static void fault2WhereverNoWordBegins() {
        everyNoWord("", Tables.FIRST);
        everyNoWord("010", Tables.STEP);
        everyNoWord("001", Tables.WHITE);
        everyNoWord("001 1000", Tables.BLACK);
        everyNoWord("010 001", Tables.BLACK);
        everyNoWord("010 001" + BLACK_0, Tables.WHITE);
        everyNoWord(END, Tables.LAST);
    }

    private static void everyNoWord(String ahead, Map<String, Integer> words) {
        due("that there are such bits", Tables.noWords(words).isEmpty(), false);
        for (String bits : Tables.noWords(words)) {
            faults(WHITE, ahead + bits, 2, ahead.replace(" ", "").length());
            faults(WHITE, ahead + bits + "0101", 2, ahead.replace(" ", "").length());
        }
    }

    @Sentence("3 a PASS and b2 is the WIDTH;")
    private static void fault3PassToTheWidth() {
        faults(WHITE, "0001", 3, 0);
        faults("........##", "0001", 3, 0);
        faults(".........#", "0001", 3, 0);
        faults("##########", "0001", 3, 0);
        readsLine("........#.", "0001 1", WHITE);
        readsLine("#########.", "0001 1", WHITE);
        faults("..#.......", "0001 0001", 3, 4);
        faults("..#.....##", "0001 0001", 3, 4);
        readsLine("..#.....#.", "0001 0001 1", WHITE);
        faults("..##......", "1 0001", 3, 1);
        faults("..##......", "1 1 0001", 3, 2);
        readsLine("..##.....#", "1 0001 1", "..########");
    }

    @Sentence("4 a SHIFT to a place that is not right of a, or beyond the WIDTH;")
    private static void fault4NotRightOfA() {
        String above = "...###....";
        faults(above, "1 0000010", 4, 1);
        readsLine(above, "1 000010 1", "...#......");
        faults("...##.....", "1 0000010", 4, 1);
        faults("...##.....", "1 000010", 4, 1);
        readsLine("...##.....", "1 010 1", "...#......");
        faults("...#......", "1 010", 4, 1);
        faults("...#......", "1 000010", 4, 1);
        faults("...#......", "1 0000010", 4, 1);
        readsLine("...#......", "1 1 1", "...#......");
        faults(WHITE, "001 1111 010 0000010", 4, 10);
        faults(WHITE, "001 1111 010 000010", 4, 10);
        readsLine(WHITE, "001 1111 010 010 1", ".......#.#");
        faults(WHITE, "010 010", 4, 3);
    }

    @Sentence("4 a SHIFT to a place that is not right of a, or beyond the WIDTH;")
    private static void fault4LeftOfTheFirstDot() {
        faults("#.........", "010", 4, 0);
        faults("#.........", "000010", 4, 0);
        faults("#.........", "0000010", 4, 0);
        readsLine("#.........", "1 1 1", "#.........");
        faults(".#........", "000010", 4, 0);
        readsLine(".#........", "010 1 1", "##........");
        faults("..#.......", "0000010", 4, 0);
        readsLine("..#.......", "000010 1 1", "###.......");
        readsLine("...#......", "0000010 1 1", "####......");
        readsFirst(2, "0000010 1", -4, 0);
        readsFirst(2, "000010 1 1", 1, 7);
        readsFirst(1, "000010 11", -4, 0);
        readsFirst(3, "0000010 1", 1, 8);
    }

    @Sentence("4 a SHIFT to a place that is not right of a, or beyond the WIDTH;")
    private static void fault4BeyondTheWidth() {
        faults(WHITE, "011", 4, 0);
        faults(WHITE, "000011", 4, 0);
        faults(WHITE, "0000011", 4, 0);
        readsLine(WHITE, "1", WHITE);
        readsLine(".........#", "011", WHITE);
        faults(".........#", "000011", 4, 0);
        readsLine("........##", "000011", WHITE);
        faults("........##", "0000011", 4, 0);
        readsLine(".......###", "0000011", WHITE);
        faults("#########.", "1 000011", 4, 1);
        readsLine("#########.", "1 011", "##########");
    }

    @Sentence("5 runs that go beyond the WIDTH (as soon as a BLOCK or REST does so);")
    private static void fault5ARestBeyondTheWidth() {
        readsLine(WHITE, "001 00111" + BLACK_0, WHITE);
        faults(WHITE, "001 01000", 5, 3);
        faults(WHITE, "001 00111 010", 5, 8);
        readsLine(WHITE, "001 1000 00011", "...#######");
        faults(WHITE, "001 1000 000101", 5, 7);
        readsLine("...###....", "1 001 00011" + WHITE_0, "...#######");
        faults("...###....", "1 001 000101", 5, 4);
        readsLine("...###....", "1 1 001 1011" + BLACK_0, "...###....");
        faults("...###....", "1 1 001 1100", 5, 5);
        faults(".".repeat(100), "001 11011 00010110", 5, 8);
        readsLine(".".repeat(100), "001 11011 00010101" + BLACK_0, ".".repeat(100));
        faults(".", "001 0111", 5, 3);
        readsLine(".", "001 000111" + BLACK_0, ".");
        readsLine(".", "001" + WHITE_0 + "010", "#");
        faults(".", "001" + WHITE_0 + "11", 5, 11);
    }

    @Sentence("5 runs that go beyond the WIDTH (as soon as a BLOCK or REST does so);")
    private static void fault5ABlockBeyondTheWidth() {
        faults(".".repeat(63), "001 11011", 5, 3);
        readsLine(".".repeat(64), "001 11011" + WHITE_0 + BLACK_0, ".".repeat(64));
        faults(".".repeat(64), "001 11011 000111", 5, 8);
        faults(".".repeat(127), "001 11011 11011", 5, 8);
        faults(".".repeat(64), "001 000111 0000001111", 5, 9);
        readsLine(".".repeat(65), "001 000111 0000001111" + BLACK_0, "." + "#".repeat(64));
        String most = "000000011111";
        readsLine(".".repeat(10000), "001" + most.repeat(3) + "000000010111 101010" + BLACK_0, ".".repeat(10000));
        faults(".".repeat(10000), "001" + most.repeat(3) + "000000010111 101011", 5, 3 + 36 + 12);
        faults(".".repeat(10000), "001" + most.repeat(4), 5, 3 + 36);
        faults(".".repeat(10000), "001" + WHITE_0 + most.repeat(3) + "000000010111 0000011000", 5, 3 + 8 + 36 + 12);
        faults(".".repeat(10000), "001" + WHITE_0 + most.repeat(4), 5, 3 + 8 + 36);
        faults(".".repeat(10000), "001" + "11011".repeat(157), 5, 3 + 5 * 156);
    }

    @Sentence("(as soon as a BLOCK or REST does so)")
    private static void fault5AheadOfWhatStandsBehind() {
        faults(WHITE, "001 11011", 5, 3);
        faults(WHITE, "001 11011 00000000", 5, 3);
        faults(WHITE, "001 11011 11011 11011", 5, 3);
        faults(WHITE, "001 01000 00000000", 5, 3);
        faults(WHITE, "001 1000 0000001111 00000000", 5, 7);
    }

    @Sentence("6 two runs of 0 dots.")
    private static void fault6TwoRunsOf0Dots() {
        faults(WHITE, "001" + WHITE_0 + BLACK_0, 6, 0);
        faults(WHITE, "010 001" + BLACK_0 + WHITE_0, 6, 3);
        faults("...###....", "1 1 001" + WHITE_0 + BLACK_0, 6, 2);
        readsLine(WHITE, "001" + WHITE_0 + "0000100", "##########");
        readsLine(WHITE, "001 00111" + BLACK_0, WHITE);
        readsLine(WHITE, "001" + WHITE_0 + "010 1", "#.........");
        readsLine(WHITE, "001 000111" + BLACK_0 + "1", WHITE);
        readsLine(WHITE, "001 1000" + BLACK_0 + "001" + WHITE_0 + "10 1", "...###....");
        readsLine(".".repeat(64), "001 11011" + WHITE_0 + BLACK_0, ".".repeat(64));
        readsLine(".".repeat(64), "001" + WHITE_0 + "0000001111" + BLACK_0, "#".repeat(64));
    }

    @Sentence("It has these FAULTS, the first one in the bits counts:")
    private static void firstFaultInTheBitsCounts() {
        faults(WHITE, "0001 0000000", 3, 0);
        faults(WHITE, "011 0001", 4, 0);
        faults(WHITE, "010 0000000 0001", 2, 3);
        faults(WHITE, "001" + WHITE_0 + BLACK_0 + "0000000", 6, 0);
        faults(WHITE, "001" + WHITE_0 + "00000000", 2, 11);
        faults(WHITE, "001" + WHITE_0 + "0000110", 1, 11);
        faults(WHITE, "001" + WHITE_0 + "0000101", 5, 11);
        faults(WHITE, "001 01000 0000", 5, 3);
        faults(WHITE, "010 0000011 0001", 4, 3);
        faults(WHITE, "010 0001 011", 3, 3);
    }

    // END

    @Sentence("Where a line begins END can stand, too;")
    private static void endWhereALineBegins() {
        readsFirst(10, END + END, 0, 24);
        reads(WHITE, END + END, 0, 24, WHITE);
        reads("...###....", END + END, 0, 24, "...###....");
        faults(WHITE, "010" + END + END, 2, 3);
        faults("....#.....", "0001" + END + END, 2, 4);
        faults(WHITE, "001 1000 10" + END + END, 2, 9);
        faults(WHITE, "001" + END + END, 2, 3);
        faults(WHITE, "001 1000" + END + END, 2, 7);
    }

    @Sentence("behind it there END alone can stand: then that is the END of the picture.")
    private static void behindEndAloneEnd() {
        reads(WHITE, END + END, 0, 24, WHITE);
        reads(WHITE, END + END + END, 0, 24, WHITE);
        reads(WHITE, END + END + "1", 0, 24, WHITE);
        for (String word : Tables.STEP.keySet()) {
            faults("...###....", END + word, 2, 12);
            faults("...###....", END + word + END, 2, 12);
        }
        faults(WHITE, END + "000000000000", 2, 12);
        faults(WHITE, END + "0" + END, 2, 12);
        faults(WHITE, END + END.substring(1), 2, 12);
        faults(WHITE, END, 1, 12);
        faults(WHITE, END + "00000000000", 1, 12);
        readsFirst(10, END + "0000", -1, 12);
        readsFirst(10, END + "1000", -2, 12);
    }
}

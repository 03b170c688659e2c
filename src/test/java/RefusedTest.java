import java.util.function.Consumer;
import java.util.function.Supplier;

/**
 * What throws, or answers false, changes nothing: of two objects with the same past one gets the refused call, and
 * from there on both must answer alike, whatever comes next.
 */
public final class RefusedTest extends Check {
    private static final int FUTURES = 6;
    private static final String NOTHING = "What throws, or answers false, changes nothing.";

    public static void main(String[] args) throws Exception {
        runTests(RefusedTest.class);
    }

    private static void changesNothing(String what, Supplier<DotLines> past, Consumer<DotLines> refused) {
        for (int future = 0; future < FUTURES; future++) {
            DotLines x = past.get();
            refused.accept(x);
            due("future " + future + " behind " + what, story(x, future), story(past.get(), future));
        }
    }

    /** All answers of one of some futures. */
    private static String story(DotLines x, int future) {
        StringBuilder s = new StringBuilder();
        tell(s, x);
        switch (future) {
            case 0: codeOn(s, x); break;
            case 1: codeWhiteOn(s, x); break;
            case 2: readOn(s, x, 4); x.rewind(); readOn(s, x, 3); break;
            case 3: s.append(x.give(0x8000001001000000L, 8)); readOn(s, x, 4); s.append(close(x)); tell(s, x); break;
            case 4: x.clear(); tell(s, x); codeOn(s, x); break;
            default: x.wipe(); tell(s, x); s.append(x.give(0x5800100100L, 5)); readOn(s, x, 3); break;
        }
        return s.toString();
    }

    private static void codeOn(StringBuilder s, DotLines x) {
        s.append(code(x));
        tell(s, x);
        s.append(x.paint(0, 1, true)).append(code(x)).append(close(x));
        tell(s, x);
        s.append(turn(x, 0));
        readOn(s, x, 5);
    }

    /** The line that is being made goes on in white: then it has room even in an OUTPUT with few bits left. */
    private static void codeWhiteOn(StringBuilder s, DotLines x) {
        s.append(x.paint(0, x.look(0), false)).append(code(x)).append(code(x));
        tell(s, x);
        s.append(close(x)).append(code(x));
        tell(s, x);
    }

    private static void readOn(StringBuilder s, DotLines x, int times) {
        for (int i = 0; i < times; i++) {
            s.append(x.read());
            tell(s, x);
        }
    }

    /** All that can be asked. */
    private static void tell(StringBuilder s, DotLines x) {
        for (int which = -1; which <= 10; which++) {
            s.append(x.look(which)).append(' ');
        }
        for (int k = -1; k <= x.look(1) / 64 + 1; k++) {
            s.append(x.out(k)).append(' ');
        }
        for (int k = -1; k <= x.look(0) / 64 + 1; k++) {
            s.append(x.dots(k)).append(' ');
        }
        for (int i = -2; i <= x.change(-1); i++) {
            s.append(x.change(i)).append(' ');
        }
        for (int i = 0; i < Math.min(x.look(0), 100); i++) {
            s.append(black(x, i));
        }
        s.append('\n');
    }

    /** A line half made below another one, reading in the midst of a picture. */
    private static DotLines inTheMidst() {
        DotLines x = withCoded("..####..#...##.#....", ".#..####....#....###", "####.####.####.####.");
        turn(x, 0);
        x.read();
        paintRow(x, "...##.....#######..#");
        return x;
    }

    private static DotLines closed() {
        DotLines x = inTheMidst();
        close(x);
        return x;
    }

    private static DotLines atTheEnd() {
        DotLines x = closed();
        turn(x, 0);
        for (int i = 0; i < 4; i++) {
            x.read();
        }
        due("read() at the END", x.read(), 0);
        return x;
    }

    private static DotLines atAFault() {
        DotLines x = inTheMidst();
        x.wipe();
        giveBits(x, "001 1000 10 1 0001 0001 1111");
        x.read();
        due("read() at a FAULT", x.read(), -3);
        return x;
    }

    @Sentence(NOTHING)
    private static void paintThatAnswersFalse() {
        int[][] not = {{-1, 2}, {-1, 30}, {LEAST, 1}, {LEAST, GREATEST}, {0, 0}, {0, -1}, {0, LEAST}, {5, -3}, {0, 21},
            {1, 20}, {19, 2}, {20, 1}, {20, 0}, {10, GREATEST}, {GREATEST, 1}, {GREATEST, GREATEST}, {GREATEST, LEAST}};
        for (int[] p : not) {
            for (boolean black : new boolean[] {true, false}) {
                String call = "paint(" + p[0] + ", " + p[1] + ", " + black + ")";
                Consumer<DotLines> refused = x -> due(call, x.paint(p[0], p[1], black), false);
                changesNothing(call, RefusedTest::inTheMidst, refused);
                changesNothing(call + " when new", () -> new DotLines(20), refused);
                changesNothing(call + " when closed", RefusedTest::closed, refused);
            }
        }
    }

    @Sentence(NOTHING)
    private static void codeThatThrowsWhenClosed() {
        Consumer<DotLines> refused = x -> due("code()", code(x), THROWS);
        changesNothing("code()", RefusedTest::closed, refused);
        changesNothing("code()", RefusedTest::atTheEnd, refused);
        changesNothing("code()", () -> {
            DotLines x = new DotLines(10);
            close(x);
            return x;
        }, refused);
        changesNothing("code()", () -> {
            DotLines x = filled(MOST_BITS - 24);
            close(x);
            return x;
        }, refused);
    }

    @Sentence(NOTHING)
    private static void codeThatThrowsWithoutRoom() {
        Consumer<DotLines> refused = x -> due("code()", code(x), THROWS);
        changesNothing("code() of one bit", () -> filled(MOST_BITS), refused);
        for (int room : new int[] {1, 3, 4, 15, 16, 40, 63, 64}) {
            changesNothing("code() of ACROSS where " + room + " bits have room", () -> {
                DotLines x = filled(MOST_BITS - room);
                x.paint(2559, 2559, true);
                x.paint(6000, 1000, true);
                return x;
            }, refused);
        }
        for (int room : new int[] {0, 1, 3, 4, 7, 8, 11, 12}) {
            changesNothing("code() of PASS where " + room + " bits have room", () -> aboveWithPasses(room), refused);
        }
        for (int room : new int[] {0, 1, 2, 4, 5, 7, 8}) {
            changesNothing("code() of SHIFT where " + room + " bits have room", () -> {
                DotLines x = aboveWithPasses(room);
                x.paint(9990, 1, true);
                x.paint(9992, 1, true);
                x.paint(9994, 2, true);
                return x;
            }, refused);
        }
    }

    /** So little room is left below a line with three black dots (a white line below it takes 13 bits). */
    private static DotLines aboveWithPasses(int room) {
        DotLines tried = new DotLines(10000);
        threeDots(tried);
        int need = code(tried);
        DotLines x = filled(MOST_BITS - room - need);
        threeDots(x);
        due("code() of three dots", code(x), need);
        return x;
    }

    private static void threeDots(DotLines x) {
        x.paint(9990, 1, true);
        x.paint(9992, 1, true);
        x.paint(9994, 1, true);
    }

    @Sentence(NOTHING)
    private static void closeThatThrowsWhenClosed() {
        Consumer<DotLines> refused = x -> due("close()", close(x), THROWS);
        changesNothing("close()", RefusedTest::closed, refused);
        changesNothing("close()", RefusedTest::atTheEnd, refused);
        changesNothing("close()", () -> {
            DotLines x = new DotLines(10);
            close(x);
            return x;
        }, refused);
    }

    @Sentence(NOTHING)
    private static void closeThatThrowsWithoutRoom() {
        Consumer<DotLines> refused = x -> due("close()", close(x), THROWS);
        for (int room : new int[] {0, 1, 8, 11, 12, 13, 16, 20, 23}) {
            changesNothing("close() where " + room + " bits have room", () -> filled(MOST_BITS - room), refused);
            changesNothing("close() where " + room + " bits have room, with a line", () -> {
                DotLines x = filled(MOST_BITS - room);
                x.paint(9999, 1, true);
                return x;
            }, refused);
        }
    }

    @Sentence(NOTHING)
    private static void giveThatAnswersFalse() {
        for (int n : new int[] {LEAST, -8, -1, 0, 9, 10, 16, GREATEST, (1 << 29) + 1}) {
            String call = "give(-1, " + n + ")";
            Consumer<DotLines> refused = x -> due(call, x.give(-1, n), false);
            changesNothing(call, RefusedTest::inTheMidst, refused);
            changesNothing(call, RefusedTest::atTheEnd, refused);
            changesNothing(call, RefusedTest::atAFault, refused);
            changesNothing(call, () -> new DotLines(10), refused);
        }
    }

    @Sentence(NOTHING)
    private static void giveThatAnswersFalseWithoutRoom() {
        for (int room = 0; room < 8; room++) {
            for (int n = room + 1; n <= 8; n += 3) {
                int bytes = n;
                String call = "give(0, " + n + ") where " + room + " bytes have room";
                Consumer<DotLines> refused = x -> due(call, x.give(0, bytes), false);
                int left = room;
                Supplier<DotLines> past = () -> fed(MOST_BYTES - left);
                changesNothing(call, past, refused);
                DotLines x = past.get();
                refused.accept(x);
                due("give() of what has room behind " + call, room == 0 || x.give(-1, room), true);
                for (int i = 0; i < MOST_BITS; i++) {
                    x.read();
                }
                due("lines of the whole INPUT", x.look(4), MOST_BITS);
                due("read() behind them", x.read(), -1);
            }
        }
    }

    @Sentence(NOTHING)
    private static void turnThatThrows() {
        for (int n : new int[] {LEAST, -8, -1, 100, 65536, GREATEST}) {
            String call = "turn(" + n + ")";
            Consumer<DotLines> refused = x -> due(call, turn(x, n), THROWS);
            changesNothing(call, RefusedTest::inTheMidst, refused);
            changesNothing(call, RefusedTest::closed, refused);
            changesNothing(call, RefusedTest::atTheEnd, refused);
            changesNothing(call, RefusedTest::atAFault, refused);
            changesNothing(call, () -> new DotLines(10), refused);
        }
        Consumer<DotLines> oneMore = x -> due("turn() of one more", turn(x, (x.look(1) + 7) / 8 + 1), THROWS);
        changesNothing("turn() of one more", RefusedTest::inTheMidst, oneMore);
        changesNothing("turn() of one more", RefusedTest::atTheEnd, oneMore);
        changesNothing("turn() of one more", () -> new DotLines(10), oneMore);
        changesNothing("turn() of one more", () -> filled(MOST_BITS), oneMore);
    }

    @Sentence(NOTHING)
    private static void blackThatThrows() {
        for (int i : new int[] {LEAST, -1, 20, 21, 64, 10000, GREATEST}) {
            String call = "black(" + i + ")";
            Consumer<DotLines> refused = x -> due(call, black(x, i), THROWS);
            changesNothing(call, RefusedTest::inTheMidst, refused);
            changesNothing(call, RefusedTest::atTheEnd, refused);
            changesNothing(call, RefusedTest::atAFault, refused);
            changesNothing(call, () -> new DotLines(20), refused);
        }
    }

    @Sentence("Of several exceptions the first one listed is thrown.")
    private static void eachCallHasItsOneException() {
        throwsOne("code()", IllegalStateException.class, () -> closed().code());
        throwsOne("close()", IllegalStateException.class, () -> closed().close());
        throwsOne("code()", IllegalStateException.class, () -> filled(MOST_BITS).code());
        throwsOne("close()", IllegalStateException.class, () -> filled(MOST_BITS).close());
        throwsOne("turn(-1)", IllegalArgumentException.class, () -> closed().turn(-1));
        throwsOne("turn(100)", IllegalArgumentException.class, () -> closed().turn(100));
        throwsOne("black(-1)", IndexOutOfBoundsException.class, () -> closed().black(-1));
        throwsOne("black(20)", IndexOutOfBoundsException.class, () -> closed().black(20));
    }

    private static void throwsOne(String call, Class<?> which, Supplier<Object> calling) {
        Object got = "nothing";
        try {
            calling.get();
        } catch (RuntimeException e) {
            got = e.getClass();
        }
        due("the exception of " + call, got, which);
    }
}

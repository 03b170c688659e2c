import java.util.ArrayList;
import java.util.Arrays;
import java.util.HashMap;
import java.util.List;
import java.util.Map;
import java.util.Random;

/**
 * Random runs of calls, with a fixed seed, on a DotLines and on a model of it that keeps to the document's
 * words dot by dot and bit by bit (bits are characters, all that is looked for is sought anew): all answers
 * must agree.
 */
public final class ModelTest {
    private static final int MOST_BITS = 524288;

    /** What a read ends with when it has a FAULT. */
    private static final class Fault extends Exception {
        final int which;
        final int bit;

        Fault(int which, int bit) {
            super(null, null, false, false);
            this.which = which;
            this.bit = bit;
        }
    }

    private static final class Model {
        final int width;
        boolean[] made;
        boolean[] aboveMade;
        boolean[] lastRead;
        StringBuilder output = new StringBuilder();
        StringBuilder input = new StringBuilder();
        boolean closed;
        int lines, passes, shifts, acrosses;
        int linesRead, at, ended = 1;

        Model(int w) {
            width = w < 1 ? 1 : w > 10000 ? 10000 : w;
            made = new boolean[width];
            aboveMade = new boolean[width];
            lastRead = new boolean[width];
        }

        boolean isChange(boolean[] line, int x) {
            return line[x] != (x > 0 && line[x - 1]);
        }

        int b1(boolean[] above, int a, boolean colour) {
            for (int x = a + 1; x < width; x++) {
                if (isChange(above, x) && above[x] != colour) {
                    return x;
                }
            }
            return width;
        }

        int firstDot(boolean[] line, int a, boolean colour) {
            for (int x = a + 1; x < width; x++) {
                if (line[x] == colour) {
                    return x;
                }
            }
            return width;
        }

        int paint(int from, int n, boolean black) {
            if (n < 1 || from < 0 || (long) from + n > width) {
                return 0;
            }
            for (int x = from; x < from + n; x++) {
                made[x] = black;
            }
            return 1;
        }

        /** null for an IllegalStateException */
        Integer code() {
            if (closed) {
                return null;
            }
            StringBuilder bits = new StringBuilder();
            int p = 0, s = 0, c = 0, a = -1;
            boolean colour = false;
            while (a < width) {
                int a1 = firstDot(made, a, !colour);
                int b1 = b1(aboveMade, a, colour);
                int b2 = firstDot(aboveMade, b1, colour);
                if (b2 < a1) {
                    bits.append("0001");
                    p++;
                    a = b2;
                } else if (Math.abs(a1 - b1) <= 3) {
                    bits.append(Tables.wordOf(Tables.STEP, a1 - b1));
                    s++;
                    a = a1;
                    colour = !colour;
                } else {
                    int a2 = firstDot(made, a1, colour);
                    bits.append("001").append(Tables.run(a1 - (a == -1 ? 0 : a), colour));
                    bits.append(Tables.run(a2 - a1, !colour));
                    c++;
                    a = a2;
                }
            }
            if (output.length() + bits.length() > MOST_BITS) {
                return null;
            }
            output.append(bits);
            passes += p;
            shifts += s;
            acrosses += c;
            lines++;
            aboveMade = made;
            made = new boolean[width];
            return bits.length();
        }

        Integer close() {
            if (closed || output.length() + 24 > MOST_BITS) {
                return null;
            }
            output.append(Tables.END).append(Tables.END);
            while (output.length() % 8 != 0) {
                output.append('0');
            }
            closed = true;
            return output.length() / 8;
        }

        void clear() {
            output.setLength(0);
            closed = false;
            made = new boolean[width];
            aboveMade = new boolean[width];
            lines = passes = shifts = acrosses = 0;
        }

        long out(int k) {
            long part = 0;
            for (long i = 64L * k; i < 64L * k + 64; i++) {
                part = part << 1 | (i >= 0 && i < output.length() && output.charAt((int) i) == '1' ? 1 : 0);
            }
            return part;
        }

        int give(long part, int n) {
            if (n < 1 || n > 8 || input.length() / 8 + n > 65536) {
                return 0;
            }
            for (int i = 8 * n - 1; i >= 0; i--) {
                input.append((part >>> i & 1) == 1 ? '1' : '0');
            }
            return 1;
        }

        Integer turn(int n) {
            int bytes = (output.length() + 7) / 8;
            if (n < 0 || n > bytes) {
                return null;
            }
            StringBuilder whole = new StringBuilder(output);
            while (whole.length() % 8 != 0) {
                whole.append('0');
            }
            input = new StringBuilder(whole.substring(8 * n));
            rewind();
            return input.length() / 8;
        }

        void wipe() {
            input.setLength(0);
            rewind();
        }

        void rewind() {
            lastRead = new boolean[width];
            linesRead = 0;
            at = 0;
            ended = 1;
        }

        int read() {
            if (ended != 1) {
                return ended;
            }
            try {
                ended = readLine();
            } catch (Fault f) {
                ended = -f.which;
                at = f.bit;
            }
            return ended;
        }

        String word(int from, Map<String, Integer> words) throws Fault {
            for (int to = from; to < from + 14; to++) {
                if (to > input.length()) {
                    throw new Fault(1, from);
                }
                String bits = input.substring(from, to);
                if (words.containsKey(bits)) {
                    return bits;
                }
                boolean begun = false;
                for (String w : words.keySet()) {
                    begun |= w.startsWith(bits);
                }
                if (!begun) {
                    throw new Fault(2, from);
                }
            }
            throw new RuntimeException("too long a word");
        }

        int readLine() throws Fault {
            boolean[] line = new boolean[width];
            int pos = at;
            int a = -1;
            boolean colour = false;
            while (a < width) {
                int b1 = b1(lastRead, a, colour);
                int b2 = firstDot(lastRead, b1, colour);
                String w = word(pos, a == -1 ? Tables.FIRST : Tables.STEP);
                int meaning = (a == -1 ? Tables.FIRST : Tables.STEP).get(w);
                int behind = pos + w.length();
                int from = Math.max(a, 0);
                if (meaning == Tables.ENDING) {
                    at = behind + word(behind, Tables.LAST).length();
                    return 0;
                } else if (meaning == Tables.PASS) {
                    if (b2 == width) {
                        throw new Fault(3, pos);
                    }
                    Arrays.fill(line, from, b2, colour);
                    a = b2;
                } else if (meaning == Tables.ACROSS) {
                    int to = from;
                    for (int half = 0; half < 2; half++) {
                        boolean c = (half == 0) == colour;
                        Map<String, Integer> words = c ? Tables.BLACK : Tables.WHITE;
                        int n;
                        do {
                            String r = word(behind, words);
                            n = words.get(r);
                            if (to + n > width) {
                                throw new Fault(5, behind);
                            }
                            Arrays.fill(line, to, to + n, c);
                            to += n;
                            behind += r.length();
                        } while (n >= 64);
                    }
                    if (to == from) {
                        throw new Fault(6, pos);
                    }
                    a = to;
                } else {
                    int to = b1 + meaning;
                    if (to <= a || to > width) {
                        throw new Fault(4, pos);
                    }
                    Arrays.fill(line, from, to, colour);
                    a = to;
                    colour = !colour;
                }
                pos = behind;
            }
            at = pos;
            lastRead = line;
            linesRead++;
            return 1;
        }

        /** null for an IndexOutOfBoundsException */
        Integer black(int x) {
            return x < 0 || x >= width ? null : lastRead[x] ? 1 : 0;
        }

        long dots(int k) {
            long part = 0;
            for (long x = 64L * k; x < 64L * k + 64; x++) {
                part = part << 1 | (x >= 0 && x < width && lastRead[(int) x] ? 1 : 0);
            }
            return part;
        }

        int change(int i) {
            List<Integer> places = new ArrayList<>();
            for (int x = 0; x < width; x++) {
                if (isChange(lastRead, x)) {
                    places.add(x);
                }
            }
            return i == -1 ? places.size() : i >= 0 && i < places.size() ? places.get(i) : -1;
        }

        int look(int which) {
            int[] all = {width, output.length(), closed ? 1 : 0, input.length() / 8, linesRead, lines, passes, shifts,
                acrosses, at};
            return which >= 0 && which < all.length ? all[which] : -1;
        }
    }

    private static int wrong = 0;
    private static final Map<String, Integer> SEEN = new HashMap<>();
    private static int run;
    private static Random random;
    private static DotLines x;
    private static Model m;

    private static void due(String call, Object got, Object want) {
        if (!String.valueOf(got).equals(String.valueOf(want)) && wrong++ < 20) {
            System.out.println("run " + run + ", width " + m.width + ": " + call + " answered " + got + ", due is " + want);
        }
        String kind = call.substring(0, call.indexOf('(') + 1);
        SEEN.merge(want == null ? kind + " throws" : kind.equals("read(") ? kind + " " + want : kind, 1, Integer::sum);
    }

    private static Object code() {
        try {
            return x.code();
        } catch (IllegalStateException e) {
            return null;
        }
    }

    private static Object close() {
        try {
            return x.close();
        } catch (IllegalStateException e) {
            return null;
        }
    }

    private static Object turn(int n) {
        try {
            return x.turn(n);
        } catch (IllegalArgumentException e) {
            return null;
        }
    }

    private static Object black(int i) {
        try {
            return x.black(i) ? 1 : 0;
        } catch (IndexOutOfBoundsException e) {
            return e.getClass() == IndexOutOfBoundsException.class ? null : e;
        }
    }

    private static void paint(int from, int n, boolean black) {
        due("paint(" + from + ", " + n + ", " + black + ")", x.paint(from, n, black) ? 1 : 0, m.paint(from, n, black));
    }

    /** All that can be asked without changing anything, at odd places too. */
    private static void ask() {
        for (int which = -1; which <= 10; which++) {
            due("look(" + which + ")", x.look(which), m.look(which));
        }
        int near = m.output.length() / 64;
        for (int k : new int[] {-1, 0, near - 1, near, near + 1, odd(), random.nextInt(8193)}) {
            due("out(" + k + ")", x.out(k), m.out(k));
        }
        for (int k : new int[] {-1, 0, m.width / 64 - 1, m.width / 64, m.width / 64 + 1, odd(), random.nextInt(160)}) {
            due("dots(" + k + ")", x.dots(k), m.dots(k));
        }
        int count = m.change(-1);
        for (int i : new int[] {-2, -1, 0, 1, count - 1, count, odd(), random.nextInt(count + 1)}) {
            due("change(" + i + ")", x.change(i), m.change(i));
        }
        for (int i : new int[] {-1, 0, m.width - 1, m.width, odd(), random.nextInt(m.width), random.nextInt(m.width)}) {
            due("black(" + i + ")", black(i), m.black(i));
        }
    }

    private static int odd() {
        int[] all = {Integer.MIN_VALUE, Integer.MAX_VALUE, 1 << 25, 1 << 26, -(1 << 26), 1 << 29, 1 << 28, 8192, 8191};
        return random.nextBoolean() ? all[random.nextInt(all.length)] : random.nextInt();
    }

    /** A line near the one above, or not. */
    private static void makeLine() {
        int kind = random.nextInt(6);
        if (kind <= 2) {
            for (int i = 0; i < m.width; ) {
                int j = i;
                while (j < m.width && m.aboveMade[j] == m.aboveMade[i]) {
                    j++;
                }
                int from = i + random.nextInt(9) - 4;
                if (m.aboveMade[i] && random.nextInt(8) != 0) {
                    paint(Math.max(from, 0), j - i + random.nextInt(5) - 2, true);
                }
                i = j;
            }
        }
        if (kind == 5) {
            for (int i = random.nextInt(2); i < m.width; i += 2) {
                m.paint(i, 1, true);
                x.paint(i, 1, true);
            }
        }
        for (int n = random.nextInt(6); n > 0; n--) {
            int from = random.nextInt(m.width);
            int most = random.nextBoolean() ? m.width - from : Math.min(m.width - from, 1 + random.nextInt(80));
            paint(from, 1 + random.nextInt(most), random.nextInt(4) != 0);
        }
        if (random.nextInt(10) == 0) {
            paint(random.nextInt(m.width + 4) - 2, random.nextInt(m.width + 4) - 2, true);
            paint(odd(), odd(), true);
            paint(odd(), random.nextInt(5), true);
            paint(random.nextInt(5), odd(), true);
        }
    }

    /** Bits of words in any order, so that reading goes on for a while; with faults among them. */
    private static String someBits() {
        StringBuilder bits = new StringBuilder();
        Object[] steps = Tables.STEP.keySet().toArray();
        Arrays.sort(steps);
        for (int n = random.nextInt(60); n > 0; n--) {
            int kind = random.nextInt(40);
            if (kind < 2) {
                bits.append(Tables.END);
            } else if (kind == 2) {
                bits.append(Integer.toBinaryString(random.nextInt(256)));
            } else if (kind < 15) {
                boolean c = random.nextBoolean();
                bits.append("001").append(someRun(c)).append(someRun(!c));
            } else if (kind < 25) {
                bits.append("1");
            } else {
                bits.append(steps[random.nextInt(steps.length)]);
            }
        }
        return bits.toString();
    }

    private static String someRun(boolean black) {
        int most = random.nextInt(3) == 0 ? Math.max(1, m.width) : 4;
        String bits = Tables.run(random.nextInt(most), black);
        if (random.nextInt(6) > 0) {
            return bits;
        }
        return Tables.wordOf(black ? Tables.BLACK : Tables.WHITE, 64 * (1 + random.nextInt(40))) + bits;
    }

    private static void giveBits(String bits) {
        for (int i = 0; i < bits.length(); ) {
            int n = 1 + random.nextInt(8);
            long part = random.nextLong();
            for (int k = 0; k < 8 * n; k++) {
                int at = i + k;
                part = part << 1 | (at < bits.length() && bits.charAt(at) == '1' ? 1 : 0);
            }
            give(part, n);
            i += 8 * n;
        }
    }

    private static void give(long part, int n) {
        due("give(" + part + ", " + n + ")", x.give(part, n) ? 1 : 0, m.give(part, n));
    }

    private static void readOn(int most) {
        for (int n = 0; n < most; n++) {
            due("read()", x.read(), m.read());
            if (random.nextInt(3) == 0) {
                ask();
            }
        }
    }

    /** The OUTPUT as INPUT with some bits turned over. */
    private static void giveDamaged() {
        StringBuilder bits = new StringBuilder(m.output.substring(0, Math.min(m.output.length(), 4000)));
        for (int n = random.nextInt(3); n >= 0 && bits.length() > 0; n--) {
            int i = random.nextInt(bits.length());
            if (random.nextBoolean()) {
                bits.setCharAt(i, bits.charAt(i) == '0' ? '1' : '0');
            } else if (random.nextBoolean()) {
                bits.deleteCharAt(i);
            } else {
                bits.setLength(i);
            }
        }
        giveBits(bits.toString());
    }

    private static void anyCall() {
        switch (random.nextInt(12)) {
            case 0: case 1: case 2: case 3:
                makeLine();
                due("code()", code(), m.code());
                break;
            case 4:
                if (random.nextInt(3) == 0) {
                    due("close()", close(), m.close());
                }
                break;
            case 5:
                if (random.nextInt(4) == 0) {
                    x.clear();
                    m.clear();
                }
                break;
            case 6: case 7: {
                int n = random.nextInt(3) == 0 ? random.nextInt(m.output.length() / 8 + 3) - 1 : 0;
                due("turn(" + n + ")", turn(n), m.turn(n));
                break;
            }
            case 8:
                x.wipe();
                m.wipe();
                giveBits(someBits());
                break;
            case 9:
                x.wipe();
                m.wipe();
                giveDamaged();
                break;
            case 10:
                if (random.nextInt(3) == 0) {
                    x.rewind();
                    m.rewind();
                } else {
                    give(random.nextLong(), random.nextInt(11) - 1);
                }
                break;
            default:
                int n = odd();
                due("turn(" + n + ")", turn(n), m.turn(n));
                break;
        }
    }

    private static void oneRun(int width, int calls) {
        x = new DotLines(width);
        m = new Model(width);
        ask();
        for (int n = 0; n < calls; n++) {
            anyCall();
            readOn(random.nextInt(4));
            ask();
        }
    }

    /** Fills the OUTPUT to its last bits, and tries what has no room there. */
    private static void fullRun(int width, int calls) {
        x = new DotLines(width);
        m = new Model(width);
        for (int n = 0; n < calls && !m.closed; n++) {
            if (random.nextInt(3) > 0) {
                for (int i = n % 2; i < m.width; i += 2) {
                    m.paint(i, 1, true);
                    x.paint(i, 1, true);
                }
            } else {
                makeLine();
            }
            due("code()", code(), m.code());
            if (random.nextInt(calls) == 0) {
                due("close()", close(), m.close());
            }
            ask();
        }
        due("close()", close(), m.close());
        ask();
        due("turn(0)", turn(0), m.turn(0));
        give(random.nextLong(), 8);
        ask();
        readOn(20);
    }

    public static void main(String[] args) {
        int[] widths = {Integer.MIN_VALUE, -1, 0, 1, 2, 3, 5, 8, 10, 17, 24, 63, 64, 65, 100, 127, 128, 129, 300, 1000};
        for (run = 0; run < 1500; run++) {
            random = new Random(run);
            oneRun(run % 3 == 0 ? 1 + random.nextInt(30) : widths[random.nextInt(widths.length)], 40);
        }
        int[] wide = {2559, 2560, 2561, 2624, 5000, 9999, 10000, 10001, Integer.MAX_VALUE};
        for (; run < 1530; run++) {
            random = new Random(run);
            oneRun(wide[run % wide.length], 25);
        }
        for (; run < 1536; run++) {
            random = new Random(run);
            fullRun(10000 - random.nextInt(3000), 25);
        }
        for (String kind : new String[] {"read( 1", "read( 0", "read( -1", "read( -2", "read( -3", "read( -4", "read( -5",
            "read( -6", "code( throws", "close( throws", "turn( throws", "black( throws"}) {
            if (SEEN.getOrDefault(kind, 0) < 20) {
                wrong++;
                System.out.println("hardly tried: " + kind + ") " + SEEN.get(kind));
            }
        }
        System.out.println(wrong == 0 ? "the model agrees" : wrong + " answers differ from the model's");
        if (args.length > 0) {
            System.out.println(SEEN);
        }
        if (wrong != 0) {
            System.exit(1);
        }
    }
}

import java.io.IOException;
import java.lang.reflect.InvocationTargetException;
import java.lang.reflect.Method;
import java.nio.file.Files;
import java.nio.file.Path;
import java.util.Arrays;
import java.util.Comparator;

/** What the tests by sentence share: their running, calls that may throw, lines as pictures and bits as text. */
abstract class Check {
    static final String END = Tables.END;
    static final int THROWS = Integer.MIN_VALUE;
    static final int MOST_BITS = 524288;
    static final int MOST_BYTES = 65536;
    static final int LEAST = Integer.MIN_VALUE;
    static final int GREATEST = Integer.MAX_VALUE;

    private static int wrong = 0;
    private static String test = "";
    private static String document;

    /** Runs every method that has a Sentence, and ends with exit code 1 if an answer was not as due. */
    static void runTests(Class<?> tests) throws IOException, IllegalAccessException {
        Method[] methods = tests.getDeclaredMethods();
        Arrays.sort(methods, Comparator.comparing(Method::getName));
        Path path = Path.of("../shared/DOC.md");
        document = Files.isReadable(path) ? Files.readString(path) : null;
        int count = 0;
        for (Method m : methods) {
            Sentence sentence = m.getAnnotation(Sentence.class);
            if (sentence != null) {
                test = m.getName() + " (\"" + sentence.value() + "\")";
                standsInDocument(sentence.value());
                m.setAccessible(true);
                runTest(m);
                count++;
            }
        }
        System.out.println(count + " tests" + (document == null ? ", DOC.md not found" : "")
            + (wrong == 0 ? ": all answers are as due" : ": " + wrong + " answers are not as due"));
        if (wrong != 0 || count == 0) {
            System.exit(1);
        }
    }

    private static void runTest(Method m) throws IllegalAccessException {
        try {
            m.invoke(null);
        } catch (InvocationTargetException e) {
            wrong++;
            System.out.println(test + ": ended with " + e.getCause());
        }
    }

    static void standsInDocument(String words) {
        due("that \"" + words + "\" stands in DOC.md", document == null || document.contains(words), true);
    }

    static void due(String what, Object got, Object want) {
        if (!got.equals(want)) {
            wrong++;
            System.out.println(test + ": " + what + " answered " + shown(got) + ", due is " + shown(want));
        }
    }

    static void due(String what, long got, long want) {
        due(what, Long.valueOf(got), Long.valueOf(want));
    }

    static void dueBits(String what, String got, String want) {
        due(what, got, want.replace(" ", ""));
    }

    private static String shown(Object answer) {
        String text = answer.equals((long) THROWS) ? "an exception" : String.valueOf(answer);
        return text.length() > 300 ? text.substring(0, 300) + ".." : text;
    }

    /** Only the very exception will do: one of its kinds would be the machine's own. */
    private static int thrown(RuntimeException e, Class<?> due) {
        if (e.getClass() != due) {
            throw e;
        }
        return THROWS;
    }

    static int code(DotLines x) {
        try {
            return x.code();
        } catch (IllegalStateException e) {
            return thrown(e, IllegalStateException.class);
        }
    }

    static int close(DotLines x) {
        try {
            return x.close();
        } catch (IllegalStateException e) {
            return thrown(e, IllegalStateException.class);
        }
    }

    static int turn(DotLines x, int n) {
        try {
            return x.turn(n);
        } catch (IllegalArgumentException e) {
            return thrown(e, IllegalArgumentException.class);
        }
    }

    static int black(DotLines x, int place) {
        try {
            return x.black(place) ? 1 : 0;
        } catch (IndexOutOfBoundsException e) {
            return thrown(e, IndexOutOfBoundsException.class);
        }
    }

    /** The OUTPUT's bits from one on. */
    static String bits(DotLines x, int from) {
        StringBuilder bits = new StringBuilder();
        for (int i = from; i < x.look(1); i++) {
            bits.append(x.out(i / 64) >>> (63 - i % 64) & 1);
        }
        return bits.toString();
    }

    /** The line read last, # for each black dot. */
    static String row(DotLines x) {
        StringBuilder row = new StringBuilder();
        for (int i = 0; i < x.look(0); i++) {
            row.append((x.dots(i / 64) << i % 64) < 0 ? '#' : '.');
        }
        return row.toString();
    }

    static void paintRow(DotLines x, String row) {
        for (int i = 0; i < row.length(); ) {
            int to = i;
            while (to < row.length() && row.charAt(to) == row.charAt(i)) {
                to++;
            }
            if (row.charAt(i) == '#') {
                due("paint(" + i + ", " + (to - i) + ", true)", x.paint(i, to - i, true), true);
            }
            i = to;
        }
    }

    /** A row of n dots that are black from a place on up to another one. */
    static String blackFromTo(int n, int from, int to) {
        return ".".repeat(from) + "#".repeat(to - from) + ".".repeat(n - to);
    }

    static DotLines withCoded(String... rows) {
        DotLines x = new DotLines(rows[0].length());
        for (String row : rows) {
            paintRow(x, row);
            code(x);
        }
        return x;
    }

    /** The bits of the first line. */
    static String coded(String row) {
        return bits(withCoded(row), 0);
    }

    /** The bits of a line below another one. */
    static String coded(String above, String row) {
        return bits(withCoded(above, row), withCoded(above).look(1));
    }

    /** Puts the bits, filled with 0s to whole bytes, behind the INPUT. */
    static void giveBits(DotLines x, String text) {
        String bits = text.replace(" ", "");
        for (int i = 0; i < bits.length(); i += 8) {
            int part = Integer.parseInt((bits.substring(i) + "0000000").substring(0, 8), 2);
            due("give(" + part + ", 1)", x.give(part, 1), true);
        }
    }

    static DotLines given(int width, String text) {
        DotLines x = new DotLines(width);
        giveBits(x, text);
        return x;
    }

    /** The first read() of an INPUT of these bits. */
    static void readsFirst(int width, String text, int answer, int at) {
        DotLines x = given(width, text);
        due("read() of " + text, x.read(), answer);
        due("look(9) behind read() of " + text, x.look(9), at);
        due("look(4) behind read() of " + text, x.look(4), answer == 1 ? 1 : 0);
    }

    /** An INPUT that ends with the bits, where the line above has been read and no other bit is left to be read. */
    static DotLines below(String above, String text) {
        String bits = coded(above) + text.replace(" ", "");
        // White lines of one bit each ahead of it let the bits end where a byte does.
        int ahead = (8 - bits.length() % 8) % 8;
        DotLines x = given(above.length(), "1".repeat(ahead) + bits);
        for (int i = 0; i <= ahead; i++) {
            due("read() ahead of " + text, x.read(), 1);
        }
        due("the line above " + text, row(x), above);
        return x;
    }

    /** What read() answers for bits below a line; at which bit of these it goes on then, and the line read last. */
    static void reads(String above, String text, int answer, int at, String row) {
        DotLines x = below(above, text);
        int from = x.look(9);
        int lines = x.look(4);
        due("read() of " + text, x.read(), answer);
        due("look(9), from these bits on, behind read() of " + text, x.look(9) - from, at);
        due("look(4) behind read() of " + text, x.look(4) - lines, answer == 1 ? 1 : 0);
        due("the line behind read() of " + text, row(x), row);
    }

    /** A line that is read. */
    static void readsLine(String above, String text, String row) {
        reads(above, text, 1, text.replace(" ", "").length(), row);
    }

    /** A FAULT: the line read last stays what it was. */
    static void faults(String above, String text, int which, int at) {
        reads(above, text, -which, at, above);
    }

    /**
     * An object of the greatest WIDTH with so many bits of OUTPUT, of which the last 64 or more are lines of one bit.
     * It takes more calls than the document tells of, but no run of 512 calls can fill an OUTPUT.
     */
    static DotLines filled(int bits) {
        DotLines x = new DotLines(10000);
        for (int n = 0; n < 6; n++) {
            for (int i = 0; i < 10000; i += 2) {
                x.paint(i, 1, true);
            }
            code(x);
            code(x);
        }
        due("room for lines of one bit", x.look(1) < bits - 64, true);
        boolean grows = true;
        while (x.look(1) < bits && grows) {
            grows = code(x) == 1;
        }
        due("bits", x.look(1), bits);
        return x;
    }

    /** An object with so many bytes of INPUT, each 255: with more calls than the document tells of, as above. */
    static DotLines fed(int bytes) {
        DotLines x = new DotLines(10);
        for (int i = 0; i < bytes; i += 8) {
            x.give(-1, Math.min(8, bytes - i));
        }
        due("bytes", x.look(3), bytes);
        return x;
    }
}

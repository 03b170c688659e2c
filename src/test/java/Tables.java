import java.util.Collection;
import java.util.HashMap;
import java.util.Map;
import java.util.Set;
import java.util.TreeSet;

/** The words of the document as they are written there, and what can stand where. */
final class Tables {
    static final int PASS = 100;
    static final int ACROSS = 101;
    static final int ENDING = 102;
    static final String END = "000000000001";

    /** By -3 to 3. */
    static final String[] SHIFTS = {"0000010", "000010", "010", "1", "011", "000011", "0000011"};
    static final String[] WHITE_RESTS = (
        "00110101 000111 0111 1000 1011 1100 1110 1111 10011 10100 00111 01000 001000 000011 110100 110101 "
        + "101010 101011 0100111 0001100 0001000 0010111 0000011 0000100 0101000 0101011 0010011 0100100 "
        + "0011000 00000010 00000011 00011010 00011011 00010010 00010011 00010100 00010101 00010110 00010111 "
        + "00101000 00101001 00101010 00101011 00101100 00101101 00000100 00000101 00001010 00001011 01010010 "
        + "01010011 01010100 01010101 00100100 00100101 01011000 01011001 01011010 01011011 01001010 01001011 "
        + "00110010 00110011 00110100"
    ).split(" ");
    static final String[] BLACK_RESTS = (
        "0000110111 010 11 10 011 0011 0010 00011 000101 000100 0000100 0000101 0000111 00000100 00000111 "
        + "000011000 0000010111 0000011000 0000001000 00001100111 00001101000 00001101100 00000110111 "
        + "00000101000 00000010111 00000011000 000011001010 000011001011 000011001100 000011001101 000001101000 "
        + "000001101001 000001101010 000001101011 000011010010 000011010011 000011010100 000011010101 "
        + "000011010110 000011010111 000001101100 000001101101 000011011010 000011011011 000001010100 "
        + "000001010101 000001010110 000001010111 000001100100 000001100101 000001010010 000001010011 "
        + "000000100100 000000110111 000000111000 000000100111 000000101000 000001011000 000001011001 "
        + "000000101011 000000101100 000001011010 000001100110 000001100111"
    ).split(" ");
    static final String[] WHITE_BLOCKS = (
        "11011 10010 010111 0110111 00110110 00110111 01100100 01100101 01101000 01100111 011001100 011001101 "
        + "011010010 011010011 011010100 011010101 011010110 011010111 011011000 011011001 011011010 011011011 "
        + "010011000 010011001 010011010 011000 010011011"
    ).split(" ");
    static final String[] BLACK_BLOCKS = (
        "0000001111 000011001000 000011001001 000001011011 000000110011 000000110100 000000110101 "
        + "0000001101100 0000001101101 0000001001010 0000001001011 0000001001100 0000001001101 0000001110010 "
        + "0000001110011 0000001110100 0000001110101 0000001110110 0000001110111 0000001010010 0000001010011 "
        + "0000001010100 0000001010101 0000001011010 0000001011011 0000001100100 0000001100101"
    ).split(" ");
    static final String[] LONG_BLOCKS = (
        "00000001000 00000001100 00000001101 000000010010 000000010011 000000010100 000000010101 000000010110 "
        + "000000010111 000000011100 000000011101 000000011110 000000011111"
    ).split(" ");

    /** From each word to what it means: dots of a RUN; SHIFT's number, PASS, ACROSS, ENDING. */
    static final Map<String, Integer> WHITE = runWords(WHITE_RESTS, WHITE_BLOCKS);
    static final Map<String, Integer> BLACK = runWords(BLACK_RESTS, BLACK_BLOCKS);
    static final Map<String, Integer> STEP = stepWords(false, false);
    static final Map<String, Integer> FIRST = stepWords(true, false);
    static final Map<String, Integer> LAST = stepWords(false, true);

    private Tables() {
    }

    private static Map<String, Integer> runWords(String[] rests, String[] blocks) {
        Map<String, Integer> words = new HashMap<>();
        for (int n = 0; n < 64; n++) {
            words.put(rests[n], n);
        }
        for (int n = 64; n <= 2560; n += 64) {
            words.put(n <= 1728 ? blocks[n / 64 - 1] : LONG_BLOCKS[(n - 1792) / 64], n);
        }
        return words;
    }

    private static Map<String, Integer> stepWords(boolean first, boolean last) {
        Map<String, Integer> words = new HashMap<>();
        if (!last) {
            words.put("0001", PASS);
            words.put("001", ACROSS);
            for (int i = 0; i < 7; i++) {
                words.put(SHIFTS[i], i - 3);
            }
        }
        if (first || last) {
            words.put(END, ENDING);
        }
        return words;
    }

    static String wordOf(Map<String, Integer> words, int meaning) {
        for (Map.Entry<String, Integer> e : words.entrySet()) {
            if (e.getValue() == meaning) {
                return e.getKey();
            }
        }
        throw new RuntimeException("no word for " + meaning);
    }

    /** The bits of a RUN. */
    static String run(int n, boolean black) {
        Map<String, Integer> words = black ? BLACK : WHITE;
        StringBuilder bits = new StringBuilder();
        int left = n;
        while (left >= 2560) {
            bits.append(wordOf(words, 2560));
            left -= 2560;
        }
        if (left >= 64) {
            bits.append(wordOf(words, left - left % 64));
        }
        return bits.append(wordOf(words, left % 64)).toString();
    }

    static boolean begins(String bits, Collection<String> words) {
        for (String w : words) {
            if (w.startsWith(bits)) {
                return true;
            }
        }
        return false;
    }

    /** All bits with which a word begins that are not yet a whole one. */
    static Set<String> beginnings(Map<String, Integer> words) {
        Set<String> all = new TreeSet<>();
        for (String w : words.keySet()) {
            for (int n = 0; n < w.length(); n++) {
                all.add(w.substring(0, n));
            }
        }
        return all;
    }

    /** All bits with which no word begins, though without their last bit one would. */
    static Set<String> noWords(Map<String, Integer> words) {
        Set<String> all = new TreeSet<>();
        for (String b : beginnings(words)) {
            for (String bits : new String[] {b + "0", b + "1"}) {
                if (!begins(bits, words.keySet())) {
                    all.add(bits);
                }
            }
        }
        return all;
    }
}

import java.util.ArrayList;
import java.util.List;

/** Objects, texts and numbers that many tests of single sentences use. */
final class Examples {
    static final Class<IllegalArgumentException> ARGUMENT = IllegalArgumentException.class;
    static final Class<IllegalStateException> STATE = IllegalStateException.class;
    static final Class<IndexOutOfBoundsException> INDEX = IndexOutOfBoundsException.class;
    static final Class<java.util.NoSuchElementException> NO_SUCH = java.util.NoSuchElementException.class;

    private static final Scene BUSY = makeBusy();

    private Examples() {
    }

    /**
     * An object with something of everything: more than 8 changes, slot 1 in use and slot 0 not, a clear code, a
     * current phrase, phrases of three symbols, a decoded text, an error position and letters on the tape.
     */
    static Scene busy() {
        return BUSY;
    }

    private static Scene makeBusy() {
        return Scene.of("lzw 3 4 watch 120;symbols abcabcaabbcc;").then(codec -> {
            for (int percent = 121; percent <= 124; percent++) {
                codec.setLimit(percent);
            }
            codec.save(1);
            Check.encodeText(codec, "abca");
            codec.flush();
            Check.encodeText(codec, "bcbcab");
            codec.encode(2);
            codec.setPolicy(LzwCodec.FREEZE);
            codec.encode(1);
            Check.decodeText(codec, "0 1 2 4");
            Check.type(codec, "0 77");
        }).trying(LzwCodec::decode).then(codec -> Check.type(codec, "bcb"));
    }

    /** Numbers far outside of 0 to 400, those among them whose sums and products wrap around. */
    static List<Integer> farNumbers() {
        List<Integer> numbers = new ArrayList<>(List.of(-2, -8, 100_000, 1 << 28, 1 << 29, 1 << 30));
        numbers.addAll(List.of(Integer.MAX_VALUE, Integer.MAX_VALUE - 7, Integer.MIN_VALUE, Integer.MIN_VALUE + 7));
        return numbers;
    }

    static String repeated(char sign, int count) {
        return String.valueOf(sign).repeat(count);
    }

    /**
     * Letters of which no two follow each other twice: each but the first writes a code of one symbol, and adds one.
     * There are as many as the square of the size.
     */
    static String differentPairs(int size, int count) {
        boolean[][] seen = new boolean[size][size];
        StringBuilder text = new StringBuilder("a");
        int last = 0;
        while (text.length() < count) {
            int next = size - 1;
            while (seen[last][next]) {
                next--;
            }
            seen[last][next] = true;
            text.append((char) ('a' + next));
            last = next;
        }
        return text.toString();
    }

    /** The smallest size whose letters fill a dictionary of this width with their pairs. */
    static int sizeToFill(int width) {
        int size = 3;
        while (size * size < (1 << width) - size - 1) {
            size++;
        }
        return size;
    }

    /** How many letters of different pairs fill a dictionary: the first one adds nothing. */
    static int lettersToFill(int size, int width) {
        return (1 << width) - size - 1 + 1;
    }

    /** The codes 0, 3, 4 .. of "a", "aa", "aaa" .., in an alphabet of 2. */
    static String growingCodes(int count) {
        StringBuilder codes = new StringBuilder("0");
        for (int i = 1; i < count; i++) {
            codes.append(' ').append(i + 2);
        }
        return codes.toString();
    }
}

import java.util.ArrayList;
import java.util.Arrays;
import java.util.List;
import java.util.NoSuchElementException;

/** The document once more, in its plainest form: phrases are strings, states are whole copies. */
final class Model {
    /** All that undo brings back. */
    static final class State {
        int alphabet;
        int widest;
        int policy;
        int limit;
        List<String> phrases = new ArrayList<>();
        String current = "";
        String encoded = "";
        List<Integer> codes = new ArrayList<>();
        List<Integer> widths = new ArrayList<>();
        // How many symbols each written code covers; 0 for a clear code.
        List<Integer> covers = new ArrayList<>();

        State copy() {
            State other = new State();
            other.alphabet = alphabet;
            other.widest = widest;
            other.policy = policy;
            other.limit = limit;
            other.phrases = new ArrayList<>(phrases);
            other.current = current;
            other.encoded = encoded;
            other.codes = new ArrayList<>(codes);
            other.widths = new ArrayList<>(widths);
            other.covers = new ArrayList<>(covers);
            return other;
        }

        int capacity() {
            return 1 << widest;
        }

        boolean full() {
            return phrases.size() == capacity();
        }

        int width() {
            return Integer.toBinaryString(phrases.size() - 1).length();
        }

        int plainWidth() {
            return Integer.toBinaryString(alphabet - 1).length();
        }

        int sinceClear() {
            return codes.lastIndexOf(alphabet) + 1;
        }

        int sum(List<Integer> row, int from) {
            return row.subList(from, row.size()).stream().mapToInt(Integer::intValue).sum();
        }

        int percent() {
            int plain = sum(covers, sinceClear()) * plainWidth();
            return plain == 0 ? 0 : 100 * sum(widths, sinceClear()) / plain;
        }

        void write(int code) {
            codes.add(code);
            widths.add(width());
            covers.add(phrases.get(code).length());
            if (code == alphabet) {
                phrases = firstPhrases(alphabet);
            }
        }

        int encode(char letter) {
            encoded += letter;
            if (phrases.contains(current + letter)) {
                current += letter;
                return 0;
            }
            int before = codes.size();
            write(phrases.indexOf(current));
            boolean clear = full() && (policy == 1 || (policy == 2 && percent() > limit));
            if (clear) {
                write(alphabet);
            } else if (!full()) {
                phrases.add(current + letter);
            }
            current = String.valueOf(letter);
            return codes.size() - before;
        }
    }

    State now;
    String tape = "";
    int error = -1;
    String decoded = "";
    private State[] slots = new State[2];
    private final ArrayList<State> past = new ArrayList<>();

    Model() {
        now = start(4, 4, 1, 90);
    }

    /** The phrases of the first codes; no letter stands for the clear code, which has an empty one. */
    static List<String> firstPhrases(int alphabet) {
        List<String> phrases = new ArrayList<>();
        for (int i = 0; i < alphabet; i++) {
            phrases.add(String.valueOf((char) ('a' + i)));
        }
        phrases.add("");
        return phrases;
    }

    private static State start(int alphabet, int widest, int policy, int limit) {
        State state = new State();
        state.alphabet = alphabet;
        state.widest = widest;
        state.policy = policy;
        state.limit = limit;
        state.phrases = firstPhrases(alphabet);
        return state;
    }

    // ---- texts

    int append(String twenty) {
        if (tape.length() + 20 > 800) {
            throw new IllegalStateException();
        }
        tape += twenty;
        return tape.length();
    }

    int truncate(int count) {
        if (count < 0 || count > tape.length()) {
            throw new IllegalArgumentException();
        }
        tape = tape.substring(0, tape.length() - count);
        return tape.length();
    }

    private record Token(String text, int position) {
    }

    /** The tokens of a text; a wrong byte or a long number is a token that fits nowhere. */
    private static List<Token> tokens(String text) {
        List<Token> tokens = new ArrayList<>();
        var matcher = java.util.regex.Pattern.compile("[a-z]+|[0-9]+|[^ \\n]", java.util.regex.Pattern.DOTALL)
                .matcher(text);
        while (matcher.find()) {
            tokens.add(new Token(matcher.group(), matcher.start()));
        }
        tokens.add(new Token("", text.length()));
        return tokens;
    }

    private static boolean isNumber(Token token, int least, int greatest) {
        return token.text().matches("[0-9]{1,3}") && Integer.parseInt(token.text()) >= least
                && Integer.parseInt(token.text()) <= greatest;
    }

    int load() {
        List<Token> tokens = tokens(tape);
        tape = "";
        int alphabet = 0;
        int widest = 0;
        int policy = 0;
        int limit = 0;
        String symbols = "";
        error = -1;
        for (int i = 0; i < tokens.size() && error < 0; i++) {
            Token token = tokens.get(i);
            boolean fits;
            int place = i < 6 ? i : 6 + (i - 6) % 3;
            switch (place) {
                case 0 -> fits = token.text().equals("lzw");
                case 1 -> {
                    fits = isNumber(token, 2, 26);
                    alphabet = fits ? Integer.parseInt(token.text()) : 0;
                }
                case 2 -> {
                    fits = isNumber(token, 3, 8) && (1 << Integer.parseInt(token.text())) >= alphabet + 2;
                    widest = fits ? Integer.parseInt(token.text()) : 0;
                }
                case 3 -> {
                    policy = Arrays.asList("freeze", "reset", "watch").indexOf(token.text());
                    fits = policy >= 0;
                }
                case 4 -> {
                    fits = isNumber(token, 1, 200);
                    limit = fits ? Integer.parseInt(token.text()) : 0;
                }
                case 5, 8 -> fits = token.text().equals(";");
                case 6 -> fits = token.text().equals("symbols") || token.text().isEmpty();
                default -> {
                    fits = token.text().matches("[a-" + (char) ('a' + alphabet - 1) + "]+")
                            && symbols.length() + token.text().length() <= 400;
                    symbols += token.text();
                }
            }
            if (!fits) {
                error = token.position();
            }
        }
        if (error >= 0) {
            throw new IllegalArgumentException();
        }
        now = start(alphabet, widest, policy, limit);
        for (char letter : symbols.toCharArray()) {
            now.encode(letter);
        }
        decoded = "";
        slots = new State[2];
        past.clear();
        return symbols.length();
    }

    /** The decoded symbols of a code list, or null with the number of the first code that is not valid. */
    private static String decodeCodes(List<Integer> codes, State settings, int[] wrong) {
        List<String> phrases = firstPhrases(settings.alphabet);
        String previous = "";
        StringBuilder text = new StringBuilder();
        for (int i = 0; i < codes.size(); i++) {
            int code = codes.get(i);
            if (code == settings.alphabet) {
                phrases = firstPhrases(settings.alphabet);
                previous = "";
                continue;
            }
            boolean mayGrow = !previous.isEmpty() && phrases.size() < settings.capacity();
            String phrase;
            if (code >= 0 && code < phrases.size()) {
                phrase = phrases.get(code);
            } else if (code == phrases.size() && mayGrow) {
                phrase = previous + previous.charAt(0);
            } else {
                phrase = "?".repeat(401);
            }
            if (text.length() + phrase.length() > 400) {
                wrong[0] = i;
                return null;
            }
            text.append(phrase);
            if (mayGrow && !phrases.contains(previous + phrase.charAt(0))) {
                phrases.add(previous + phrase.charAt(0));
            }
            previous = phrase;
        }
        return text.toString();
    }

    int decode() {
        List<Token> tokens = tokens(tape);
        tape = "";
        List<Integer> codes = new ArrayList<>();
        for (Token token : tokens) {
            if (!isNumber(token, 0, 999)) {
                break;
            }
            codes.add(Integer.parseInt(token.text()));
        }
        int[] wrong = {codes.size()};
        String text = decodeCodes(codes, now, wrong);
        Token last = tokens.get(wrong[0]);
        error = text == null || !last.text().isEmpty() ? last.position() : -1;
        if (error >= 0) {
            throw new IllegalArgumentException();
        }
        decoded = text;
        return decoded.length();
    }

    // ---- encoding

    private void remember() {
        past.add(now.copy());
        if (past.size() > 8) {
            past.remove(0);
        }
    }

    private boolean hasSymbol(int symbol) {
        return symbol >= 0 && symbol < now.alphabet;
    }

    int encode(int symbol) {
        if (!hasSymbol(symbol)) {
            throw new IllegalArgumentException();
        }
        if (now.encoded.length() >= 400) {
            throw new IllegalStateException();
        }
        remember();
        return now.encode((char) ('a' + symbol));
    }

    int encodeTape() {
        for (char sign : tape.toCharArray()) {
            if (!hasSymbol(sign - 'a')) {
                throw new IllegalArgumentException();
            }
        }
        if (now.encoded.length() + tape.length() > 400) {
            throw new IllegalStateException();
        }
        remember();
        int before = now.codes.size();
        for (char sign : tape.toCharArray()) {
            now.encode(sign);
        }
        tape = "";
        return now.codes.size() - before;
    }

    int flush() {
        remember();
        if (now.current.isEmpty()) {
            return 0;
        }
        now.write(now.phrases.indexOf(now.current));
        now.write(now.alphabet);
        now.current = "";
        return 2;
    }

    int restart() {
        remember();
        int count = now.codes.size();
        now = start(now.alphabet, now.widest, now.policy, now.limit);
        return count;
    }

    int setPolicy(int policy) {
        if (policy < 0 || policy > 2) {
            throw new IllegalArgumentException();
        }
        remember();
        int previous = now.policy;
        now.policy = policy;
        return previous;
    }

    int setLimit(int percent) {
        if (percent < 1 || percent > 200) {
            throw new IllegalArgumentException();
        }
        remember();
        int previous = now.limit;
        now.limit = percent;
        return previous;
    }

    // ---- saved states and undo

    int save(int slot) {
        if (slot < 0 || slot > 1) {
            throw new IllegalArgumentException();
        }
        slots[slot] = now.copy();
        return 0;
    }

    int restore(int slot) {
        if (slot < 0 || slot > 1) {
            throw new IllegalArgumentException();
        }
        if (slots[slot] == null) {
            throw new NoSuchElementException();
        }
        remember();
        now = slots[slot].copy();
        return now.encoded.length();
    }

    int undo() {
        if (past.isEmpty()) {
            throw new IllegalStateException();
        }
        now = past.remove(past.size() - 1);
        return past.size();
    }

    // ---- what can be asked

    private void needCode(int code) {
        if (code < 0 || code >= now.phrases.size()) {
            throw new IndexOutOfBoundsException();
        }
    }

    private void needSymbol(int symbol) {
        if (!hasSymbol(symbol)) {
            throw new IllegalArgumentException();
        }
    }

    private static <T> T item(List<T> row, int index) {
        if (index < 0 || index >= row.size()) {
            throw new IndexOutOfBoundsException();
        }
        return row.get(index);
    }

    private static char sign(String text, int index) {
        if (index < 0 || index >= text.length()) {
            throw new IndexOutOfBoundsException();
        }
        return text.charAt(index);
    }

    int phraseLength(int code) {
        needCode(code);
        return now.phrases.get(code).length();
    }

    int phraseSymbol(int code, int index) {
        needCode(code);
        return sign(now.phrases.get(code), index) - 'a';
    }

    int prefixOf(int code) {
        needCode(code);
        String phrase = now.phrases.get(code);
        if (phrase.length() < 2) {
            throw new NoSuchElementException();
        }
        return now.phrases.indexOf(phrase.substring(0, phrase.length() - 1));
    }

    private static int codeFor(State state, String phrase) {
        int code = phrase.isEmpty() ? -1 : state.phrases.indexOf(phrase);
        if (code < 0) {
            throw new NoSuchElementException();
        }
        return code;
    }

    int extensionOf(int code, int symbol) {
        needCode(code);
        needSymbol(symbol);
        if (code == now.alphabet) {
            throw new IllegalArgumentException();
        }
        return codeFor(now, now.phrases.get(code) + (char) ('a' + symbol));
    }

    int extensionCount(int code) {
        needCode(code);
        String phrase = now.phrases.get(code);
        int count = 0;
        for (String other : now.phrases) {
            if (!phrase.isEmpty() && other.length() == phrase.length() + 1 && other.startsWith(phrase)) {
                count++;
            }
        }
        return count;
    }

    int longestPhrase() {
        int longest = now.phrases.stream().mapToInt(String::length).max().getAsInt();
        int code = 0;
        while (now.phrases.get(code).length() < longest) {
            code++;
        }
        return code;
    }

    int usesOf(int code) {
        needCode(code);
        return (int) now.codes.stream().filter(c -> c == code).count();
    }

    int findTape() {
        return codeFor(now, tape);
    }

    int currentPhrase() {
        return codeFor(now, now.current);
    }

    int codesIfEncoded(int symbol) {
        needSymbol(symbol);
        return now.copy().encode((char) ('a' + symbol));
    }

    int clearsIfEncoded(int symbol) {
        needSymbol(symbol);
        State then = now.copy();
        then.encode((char) ('a' + symbol));
        return clears(then) - clears(now);
    }

    private static int clears(State state) {
        return (int) state.codes.stream().filter(c -> c == state.alphabet).count();
    }

    int clearCount() {
        return clears(now);
    }

    int encodedSymbol(int index) {
        return sign(now.encoded, index) - 'a';
    }

    int writtenCode(int index) {
        return item(now.codes, index);
    }

    int writtenWidth(int index) {
        return item(now.widths, index);
    }

    String bits() {
        StringBuilder bits = new StringBuilder();
        for (int i = 0; i < now.codes.size(); i++) {
            String digits = Integer.toBinaryString(now.codes.get(i));
            bits.append("0".repeat(now.widths.get(i) - digits.length())).append(digits);
        }
        return bits.toString();
    }

    int bitAt(int index) {
        return sign(bits(), index) - '0';
    }

    String paddedBits() {
        String bits = bits();
        return bits + "0".repeat((8 - bits.length() % 8) % 8);
    }

    int byteAt(int index) {
        String bits = paddedBits();
        if (index < 0 || index >= bits.length() / 8) {
            throw new IndexOutOfBoundsException();
        }
        return Integer.parseInt(bits.substring(8 * index, 8 * index + 8), 2);
    }

    int codesSinceClear() {
        return now.codes.size() - now.sinceClear();
    }

    int symbolsSinceClear() {
        return now.sum(now.covers, now.sinceClear());
    }

    int bitsSinceClear() {
        return now.sum(now.widths, now.sinceClear());
    }

    int covered() {
        return now.sum(now.covers, 0);
    }

    int savedBits() {
        return covered() * now.plainWidth() - bits().length();
    }

    double bitsPerSymbol() {
        return covered() == 0 ? 0 : (double) bits().length() / (double) covered();
    }

    int decodedSymbol(int index) {
        return sign(decoded, index) - 'a';
    }

    int longestDecodedRun() {
        int longest = 0;
        for (int from = 0; from < decoded.length(); from++) {
            int to = from;
            while (to < decoded.length() && decoded.charAt(to) == decoded.charAt(from)) {
                to++;
            }
            longest = Math.max(longest, to - from);
        }
        return longest;
    }

    private String restored() {
        return decodeCodes(now.codes, now, new int[1]);
    }

    int restoredCount() {
        return restored().length();
    }

    boolean isRestored() {
        return restored().length() == covered() && now.encoded.startsWith(restored());
    }

    String setup() {
        String head = "lzw " + now.alphabet + " " + now.widest + " "
                + List.of("freeze", "reset", "watch").get(now.policy) + " " + now.limit + ";";
        return now.encoded.isEmpty() ? head : head + "symbols " + now.encoded + ";";
    }

    int setupByte(int index) {
        return sign(setup(), index);
    }
}

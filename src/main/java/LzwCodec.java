import java.util.NoSuchElementException;

/**
 * A dictionary compressor of the Lempel-Ziv-Welch family with growing code widths, a clear code and
 * a ratio watch, together with its decoder.
 *
 * All rows are made once, in the constructors, and used again: no call makes an object, so a long
 * run of calls needs no more room than a short one.
 */
public final class LzwCodec {
    public static final int FREEZE = 0;
    public static final int RESET = 1;
    public static final int WATCH = 2;

    private static final int NONE = -1;
    private static final int TAPE_MAX = 800;
    private static final int SYMBOLS_MAX = 400;
    // Every written code covers a symbol, but for clear codes, and each of these follows another code.
    private static final int CODES_MAX = 2 * SYMBOLS_MAX;
    private static final int ALPHABET_MIN = 2;
    private static final int ALPHABET_MAX = 26;
    private static final int WIDTH_MIN = 3;
    private static final int WIDTH_MAX = 8;
    private static final int CAPACITY_MAX = 1 << WIDTH_MAX;
    private static final int LIMIT_MIN = 1;
    private static final int LIMIT_MAX = 200;
    private static final int SLOT_COUNT = 2;
    private static final int UNDO_MAX = 8;
    // The longest head is "lzw 26 8 freeze 200;", the longest statement "symbols ", 400 letters, ";".
    private static final int SETUP_MAX = 20 + 8 + SYMBOLS_MAX + 1;
    private static final int BYTES_IN_WORD = 4;

    private static final int KIND_END = 0;
    private static final int KIND_WORD = 1;
    private static final int KIND_NUMBER = 2;
    private static final int KIND_SEMICOLON = 3;
    private static final int KIND_WRONG = 4;

    private final int[] tape = new int[TAPE_MAX];
    private int tapeLength;
    private int errorAt;
    private final Encoder now = new Encoder();
    private final History history = new History();
    private final int[] decoded = new int[SYMBOLS_MAX];
    private int decodedLength;
    private final Decoder decoder = new Decoder();
    private final Tokens tokens = new Tokens();
    private final SetupReader reader = new SetupReader();
    private final SetupWriter writer = new SetupWriter();

    public LzwCodec() {
        errorAt = NONE;
        now.begin(4, 4, RESET, 90);
    }

    // ---- texts

    public int append(int word0, int word1, int word2, int word3, int word4) throws IllegalStateException {
        if (tapeLength + 5 * BYTES_IN_WORD > TAPE_MAX) {
            throw new IllegalStateException("the tape would become too long");
        }
        appendWord(word0);
        appendWord(word1);
        appendWord(word2);
        appendWord(word3);
        appendWord(word4);
        return tapeLength;
    }

    private void appendWord(int word) {
        for (int i = 0; i < BYTES_IN_WORD; i++) {
            put(tape, tapeLength + i, (word >>> (24 - 8 * i)) & 255);
        }
        tapeLength += BYTES_IN_WORD;
    }

    public int truncate(int count) throws IllegalArgumentException {
        if (count < 0 || count > tapeLength) {
            throw new IllegalArgumentException("no such number of bytes on the tape");
        }
        tapeLength -= count;
        return tapeLength;
    }

    public int load() throws IllegalArgumentException {
        tokens.begin(tape, tapeLength);
        tapeLength = 0;
        if (!reader.readSetup(tokens)) {
            errorAt = tokens.start;
            throw new IllegalArgumentException("the setup text has an error");
        }
        errorAt = NONE;
        now.begin(reader.alphabet, reader.width, reader.policy, reader.limit);
        for (int i = 0; i < reader.count; i++) {
            now.takeSymbol(at(reader.symbols, i));
        }
        history.forget();
        decodedLength = 0;
        return now.encodedLength;
    }

    public int decode() throws IllegalArgumentException {
        tokens.begin(tape, tapeLength);
        tapeLength = 0;
        decoder.begin(now.dictionary);
        if (!decoder.readCodes(tokens)) {
            errorAt = tokens.start;
            throw new IllegalArgumentException("the code list has an error");
        }
        errorAt = NONE;
        copyRow(decoder.symbols, decoded, decoder.count);
        decodedLength = decoder.count;
        return decodedLength;
    }

    public int errorPosition() {
        return errorAt;
    }

    // ---- encoding

    public int encode(int symbol) throws IllegalArgumentException, IllegalStateException {
        requireSymbol(symbol);
        if (now.encodedLength >= SYMBOLS_MAX) {
            throw new IllegalStateException("no more symbols can be encoded");
        }
        history.remember(now);
        return now.takeSymbol(symbol);
    }

    public int encodeTape() throws IllegalArgumentException, IllegalStateException {
        for (int i = 0; i < tapeLength; i++) {
            if (!isSymbol(at(tape, i) - 'a')) {
                throw new IllegalArgumentException("the tape has a byte that is no letter of the alphabet");
            }
        }
        if (now.encodedLength + tapeLength > SYMBOLS_MAX) {
            throw new IllegalStateException("so many symbols cannot be encoded");
        }
        history.remember(now);
        int codes = 0;
        for (int i = 0; i < tapeLength; i++) {
            codes += now.takeSymbol(at(tape, i) - 'a');
        }
        tapeLength = 0;
        return codes;
    }

    public int flush() {
        history.remember(now);
        return now.endPhrase();
    }

    public int restart() {
        history.remember(now);
        int discarded = now.writtenLength;
        now.startAnew();
        return discarded;
    }

    public int setPolicy(int policy) throws IllegalArgumentException {
        if (policy != FREEZE && policy != RESET && policy != WATCH) {
            throw new IllegalArgumentException("no such policy");
        }
        history.remember(now);
        int previous = now.policy;
        now.policy = policy;
        return previous;
    }

    public int setLimit(int percent) throws IllegalArgumentException {
        if (percent < LIMIT_MIN || percent > LIMIT_MAX) {
            throw new IllegalArgumentException("the limit is out of its range");
        }
        history.remember(now);
        int previous = now.limit;
        now.limit = percent;
        return previous;
    }

    // ---- saved states and undo

    public void save(int slot) throws IllegalArgumentException {
        requireSlot(slot);
        history.saveIn(slot, now);
    }

    public int restore(int slot) throws IllegalArgumentException, NoSuchElementException {
        requireSlot(slot);
        if (!history.isSaved(slot)) {
            throw new NoSuchElementException("nothing was saved in the slot");
        }
        history.remember(now);
        history.fetchSaved(slot, now);
        return now.encodedLength;
    }

    public int undo() throws IllegalStateException {
        if (history.undoCount <= 0) {
            throw new IllegalStateException("there is no change to undo");
        }
        history.stepBack(now);
        return history.undoCount;
    }

    private static void requireSlot(int slot) {
        if (slot < 0 || slot >= SLOT_COUNT) {
            throw new IllegalArgumentException("no such slot");
        }
    }

    // ---- settings

    public int alphabetSize() {
        return now.dictionary.alphabet;
    }

    public int greatestWidth() {
        return now.dictionary.widest;
    }

    public int policy() {
        return now.policy;
    }

    public int limit() {
        return now.limit;
    }

    public int plainWidth() {
        return now.dictionary.widthOfSymbols();
    }

    public int clearCode() {
        return now.dictionary.alphabet;
    }

    // ---- the dictionary

    public int codeCount() {
        return now.dictionary.count;
    }

    public int capacity() {
        return now.dictionary.room();
    }

    public boolean isFull() {
        return now.dictionary.hasNoRoom();
    }

    public int codeWidth() {
        return now.dictionary.widthOfCodes();
    }

    public int phraseLength(int code) throws IndexOutOfBoundsException {
        requireCode(code);
        return now.dictionary.lengthOf(code);
    }

    public int phraseSymbol(int code, int index) throws IndexOutOfBoundsException {
        requireCode(code);
        requireIndex(index, now.dictionary.lengthOf(code));
        return now.dictionary.symbolOf(code, index);
    }

    public int prefixOf(int code) throws IndexOutOfBoundsException, NoSuchElementException {
        requireCode(code);
        if (now.dictionary.lengthOf(code) < 2) {
            throw new NoSuchElementException("the phrase has no prefix");
        }
        return at(now.dictionary.prefix, code);
    }

    public int extensionOf(int code, int symbol)
            throws IndexOutOfBoundsException, IllegalArgumentException, NoSuchElementException {
        requireCode(code);
        requireSymbol(symbol);
        if (code == now.dictionary.alphabet) {
            throw new IllegalArgumentException("the clear code has no phrase");
        }
        int longer = now.dictionary.longerBy(code, symbol);
        if (longer == NONE) {
            throw new NoSuchElementException("the dictionary has no such phrase");
        }
        return longer;
    }

    public int extensionCount(int code) throws IndexOutOfBoundsException {
        requireCode(code);
        return now.dictionary.countLonger(code);
    }

    public int longestPhrase() {
        return now.dictionary.firstLongest();
    }

    public int usesOf(int code) throws IndexOutOfBoundsException {
        requireCode(code);
        return now.countWritten(code);
    }

    public int findTape() throws NoSuchElementException {
        int code = codeOfTape();
        if (code == NONE) {
            throw new NoSuchElementException("the dictionary has no such phrase");
        }
        return code;
    }

    private int codeOfTape() {
        int code = NONE;
        for (int i = 0; i < tapeLength; i++) {
            int symbol = at(tape, i) - 'a';
            if (!isSymbol(symbol)) {
                return NONE;
            }
            code = i == 0 ? symbol : now.dictionary.longerBy(code, symbol);
            if (code == NONE) {
                return NONE;
            }
        }
        return code;
    }

    private void requireCode(int code) {
        requireIndex(code, now.dictionary.count);
    }

    private void requireSymbol(int symbol) {
        if (!isSymbol(symbol)) {
            throw new IllegalArgumentException("the symbol is out of range");
        }
    }

    private boolean isSymbol(int symbol) {
        return symbol >= 0 && symbol < now.dictionary.alphabet;
    }

    private static void requireIndex(int index, int count) {
        if (index < 0 || index >= count) {
            throw new IndexOutOfBoundsException("there is nothing with this number");
        }
    }

    // ---- the current phrase

    public boolean hasPhrase() {
        return now.phrase != NONE;
    }

    public int currentPhrase() throws NoSuchElementException {
        if (now.phrase == NONE) {
            throw new NoSuchElementException("there is no current phrase");
        }
        return now.phrase;
    }

    public int codesIfEncoded(int symbol) throws IllegalArgumentException {
        requireSymbol(symbol);
        return now.codesFor(symbol);
    }

    public int clearsIfEncoded(int symbol) throws IllegalArgumentException {
        requireSymbol(symbol);
        return now.codesFor(symbol) == 2 ? 1 : 0;
    }

    // ---- what was written

    public int encodedCount() {
        return now.encodedLength;
    }

    public int encodedSymbol(int index) throws IndexOutOfBoundsException {
        requireIndex(index, now.encodedLength);
        return at(now.encoded, index);
    }

    public int writtenCount() {
        return now.writtenLength;
    }

    public int writtenCode(int index) throws IndexOutOfBoundsException {
        requireIndex(index, now.writtenLength);
        return at(now.written, index);
    }

    public int writtenWidth(int index) throws IndexOutOfBoundsException {
        requireIndex(index, now.writtenLength);
        return at(now.widths, index);
    }

    public int bitCount() {
        return now.bits;
    }

    public int bitAt(int index) throws IndexOutOfBoundsException {
        requireIndex(index, now.bits);
        return now.bitsFrom(index, 1);
    }

    public int byteCount() {
        return (now.bits + 7) / 8;
    }

    public int byteAt(int index) throws IndexOutOfBoundsException {
        requireIndex(index, byteCount());
        return now.bitsFrom(8 * index, 8);
    }

    public int clearCount() {
        return now.clears;
    }

    public int codesSinceClear() {
        return now.recentCodes;
    }

    public int symbolsSinceClear() {
        return now.recentSymbols;
    }

    public int bitsSinceClear() {
        return now.recentBits;
    }

    // ---- ratios

    public int percentSinceClear() {
        return now.percent(now.recentBits, now.recentSymbols);
    }

    public int savedBits() {
        return now.covered() * now.dictionary.widthOfSymbols() - now.bits;
    }

    public double bitsPerSymbol() {
        int symbols = now.covered();
        return symbols <= 0 ? 0.0 : (double) now.bits / (double) symbols;
    }

    public float fillShare() {
        int room = now.dictionary.room();
        return room <= 0 ? 0.0f : (float) now.dictionary.count / (float) room;
    }

    // ---- the decoded text

    public int decodedCount() {
        return decodedLength;
    }

    public int decodedSymbol(int index) throws IndexOutOfBoundsException {
        requireIndex(index, decodedLength);
        return at(decoded, index);
    }

    public int longestDecodedRun() {
        int longest = 0;
        int run = 0;
        for (int i = 0; i < decodedLength; i++) {
            boolean same = i > 0 && at(decoded, i) == at(decoded, i - 1);
            run = same ? run + 1 : 1;
            longest = Math.max(longest, run);
        }
        return longest;
    }

    public int restoredCount() {
        decoder.begin(now.dictionary);
        decoder.takeAll(now.written, now.writtenLength);
        return decoder.count;
    }

    public boolean isRestored() {
        decoder.begin(now.dictionary);
        if (!decoder.takeAll(now.written, now.writtenLength) || decoder.count != now.covered()) {
            return false;
        }
        for (int i = 0; i < decoder.count; i++) {
            if (at(decoder.symbols, i) != at(now.encoded, i)) {
                return false;
            }
        }
        return true;
    }

    public int setupLength() {
        writer.describe(now);
        return writer.length;
    }

    public int setupByte(int index) throws IndexOutOfBoundsException {
        writer.describe(now);
        requireIndex(index, writer.length);
        return at(writer.text, index);
    }

    // ---- rows, widths and names

    private static int at(int[] row, int index) {
        return index >= 0 && index < row.length ? row[index] : 0;
    }

    private static void put(int[] row, int index, int value) {
        if (index >= 0 && index < row.length) {
            row[index] = value;
        }
    }

    private static void copyRow(int[] from, int[] to, int count) {
        int length = Math.min(count, Math.min(from.length, to.length));
        if (length > 0) {
            System.arraycopy(from, 0, to, 0, length);
        }
    }

    /** The smallest number of bits, at least 1, with which the numbers below count can be written. */
    private static int widthFor(int count) {
        int width = 1;
        while (width < 30 && (1 << width) < count) {
            width++;
        }
        return width;
    }

    private static String nameOfPolicy(int policy) {
        if (policy == FREEZE) {
            return "freeze";
        }
        return policy == RESET ? "reset" : "watch";
    }

    /** The codes and their phrases; each phrase is held as its prefix and its last symbol. */
    private static final class Dictionary {
        private final int[] prefix = new int[CAPACITY_MAX];
        private final int[] lastSymbol = new int[CAPACITY_MAX];
        private final int[] lengths = new int[CAPACITY_MAX];
        // The newest code with this prefix, and for each code the one before it with the same prefix.
        private final int[] newest = new int[CAPACITY_MAX];
        private final int[] older = new int[CAPACITY_MAX];
        private int alphabet;
        private int widest;
        private int count;

        void begin(int newAlphabet, int newWidest) {
            alphabet = newAlphabet;
            widest = newWidest;
            keepFirstCodes();
        }

        void keepFirstCodes() {
            for (int symbol = 0; symbol < alphabet; symbol++) {
                define(symbol, NONE, symbol, 1);
            }
            define(alphabet, NONE, NONE, 0);
            count = alphabet + 1;
        }

        private void define(int code, int before, int symbol, int length) {
            if (code < 0 || code >= CAPACITY_MAX) {
                return;
            }
            prefix[code] = before;
            lastSymbol[code] = symbol;
            lengths[code] = length;
            newest[code] = NONE;
        }

        int addLonger(int code, int symbol) {
            int added = count;
            define(added, code, symbol, lengthOf(code) + 1);
            // The first codes leave their places in this row unused: none of them has a prefix.
            put(older, added, at(newest, code));
            put(newest, code, added);
            count++;
            return added;
        }

        int longerBy(int code, int symbol) {
            int longer = at(newest, code);
            for (int seen = 0; seen < alphabet && longer != NONE; seen++) {
                if (at(lastSymbol, longer) == symbol) {
                    return longer;
                }
                longer = at(older, longer);
            }
            return NONE;
        }

        int countLonger(int code) {
            int found = 0;
            int longer = at(newest, code);
            while (found < alphabet && longer != NONE) {
                found++;
                longer = at(older, longer);
            }
            return found;
        }

        int firstLongest() {
            int best = 0;
            for (int code = 1; code < count; code++) {
                if (lengthOf(code) > lengthOf(best)) {
                    best = code;
                }
            }
            return best;
        }

        boolean hasCode(int code) {
            return code >= 0 && code < count;
        }

        int lengthOf(int code) {
            return at(lengths, code);
        }

        int symbolOf(int code, int index) {
            int shorter = code;
            for (int last = lengthOf(code) - 1; last > index; last--) {
                shorter = at(prefix, shorter);
            }
            return at(lastSymbol, shorter);
        }

        /** Writes the phrase of a code into a row from a place on. */
        void spell(int code, int[] row, int place) {
            int shorter = code;
            for (int last = lengthOf(code) - 1; last >= 0; last--) {
                put(row, place + last, at(lastSymbol, shorter));
                shorter = at(prefix, shorter);
            }
        }

        int room() {
            return 1 << widest;
        }

        boolean hasNoRoom() {
            return count >= room();
        }

        int widthOfSymbols() {
            return widthFor(alphabet);
        }

        int widthOfCodes() {
            return widthFor(count);
        }

        void copyFrom(Dictionary other) {
            alphabet = other.alphabet;
            widest = other.widest;
            count = other.count;
            copyRow(other.prefix, prefix, count);
            copyRow(other.lastSymbol, lastSymbol, count);
            copyRow(other.lengths, lengths, count);
            copyRow(other.newest, newest, count);
            copyRow(other.older, older, count);
        }
    }

    /** The state that is saved and undone: settings, dictionary, current phrase and what was written. */
    private static final class Encoder {
        private final Dictionary dictionary = new Dictionary();
        private int policy;
        private int limit;
        private int phrase = NONE;
        private final int[] encoded = new int[SYMBOLS_MAX];
        private int encodedLength;
        private final int[] written = new int[CODES_MAX];
        private final int[] widths = new int[CODES_MAX];
        private int writtenLength;
        private int bits;
        private int clears;
        private int recentCodes;
        private int recentSymbols;
        private int recentBits;

        void begin(int alphabet, int widest, int newPolicy, int newLimit) {
            dictionary.begin(alphabet, widest);
            policy = newPolicy;
            limit = newLimit;
            startAnew();
        }

        void startAnew() {
            dictionary.keepFirstCodes();
            phrase = NONE;
            encodedLength = 0;
            writtenLength = 0;
            bits = 0;
            clears = 0;
            forgetRecent();
        }

        private void forgetRecent() {
            recentCodes = 0;
            recentSymbols = 0;
            recentBits = 0;
        }

        int takeSymbol(int symbol) {
            int codes = codesFor(symbol);
            if (codes == 0) {
                phrase = phrase == NONE ? symbol : dictionary.longerBy(phrase, symbol);
            } else {
                replacePhrase(symbol, codes == 2);
            }
            put(encoded, encodedLength, symbol);
            encodedLength++;
            return codes;
        }

        private void replacePhrase(int symbol, boolean clearing) {
            writePhrase();
            if (clearing) {
                writeClear();
            } else if (!dictionary.hasNoRoom()) {
                dictionary.addLonger(phrase, symbol);
            }
            phrase = symbol;
        }

        int codesFor(int symbol) {
            if (phrase == NONE || dictionary.longerBy(phrase, symbol) != NONE) {
                return 0;
            }
            return asksForClearing() ? 2 : 1;
        }

        /** Whether the policy asks for a clearing as soon as the code of the current phrase is written. */
        private boolean asksForClearing() {
            if (!dictionary.hasNoRoom() || policy == FREEZE) {
                return false;
            }
            int bitsThen = recentBits + dictionary.widthOfCodes();
            int symbolsThen = recentSymbols + dictionary.lengthOf(phrase);
            return policy == RESET || percent(bitsThen, symbolsThen) > limit;
        }

        int percent(int someBits, int someSymbols) {
            int plainSize = someSymbols * dictionary.widthOfSymbols();
            return plainSize <= 0 ? 0 : 100 * someBits / plainSize;
        }

        int endPhrase() {
            if (phrase == NONE) {
                return 0;
            }
            writePhrase();
            writeClear();
            phrase = NONE;
            return 2;
        }

        private void writePhrase() {
            recentCodes++;
            recentSymbols += dictionary.lengthOf(phrase);
            recentBits += dictionary.widthOfCodes();
            write(phrase);
        }

        private void writeClear() {
            write(dictionary.alphabet);
            clears++;
            forgetRecent();
            dictionary.keepFirstCodes();
        }

        private void write(int code) {
            int width = dictionary.widthOfCodes();
            put(written, writtenLength, code);
            put(widths, writtenLength, width);
            writtenLength++;
            bits += width;
        }

        /** How many symbols the written codes cover: all encoded ones that the current phrase does not hold. */
        int covered() {
            return phrase == NONE ? encodedLength : encodedLength - dictionary.lengthOf(phrase);
        }

        int countWritten(int code) {
            int uses = 0;
            for (int i = 0; i < writtenLength; i++) {
                if (at(written, i) == code) {
                    uses++;
                }
            }
            return uses;
        }

        /** Some written bits as a number, the first one highest; 0 stands for bits behind the last one. */
        int bitsFrom(int index, int number) {
            int value = 0;
            int end = 0;
            for (int i = 0; i < writtenLength && end < index + number; i++) {
                int begin = end;
                end += at(widths, i);
                for (int bit = Math.max(begin, index); bit < end && bit < index + number; bit++) {
                    int one = (at(written, i) >>> (end - 1 - bit)) & 1;
                    value |= one << (index + number - 1 - bit);
                }
            }
            return value;
        }

        void copyFrom(Encoder other) {
            dictionary.copyFrom(other.dictionary);
            policy = other.policy;
            limit = other.limit;
            phrase = other.phrase;
            encodedLength = other.encodedLength;
            copyRow(other.encoded, encoded, encodedLength);
            writtenLength = other.writtenLength;
            copyRow(other.written, written, writtenLength);
            copyRow(other.widths, widths, writtenLength);
            bits = other.bits;
            clears = other.clears;
            recentCodes = other.recentCodes;
            recentSymbols = other.recentSymbols;
            recentBits = other.recentBits;
        }
    }

    /** The saved states, and the states before the latest changes, in a ring. */
    private static final class History {
        private final Encoder[] states = new Encoder[SLOT_COUNT + UNDO_MAX];
        private int savedSlots;
        private int undoNext;
        private int undoCount;

        History() {
            for (int i = 0; i < states.length; i++) {
                states[i] = new Encoder();
            }
        }

        void saveIn(int slot, Encoder state) {
            copyTo(slot, state);
            savedSlots |= 1 << slot;
        }

        boolean isSaved(int slot) {
            return ((savedSlots >>> slot) & 1) == 1;
        }

        void fetchSaved(int slot, Encoder state) {
            copyBack(slot, state);
        }

        void remember(Encoder state) {
            copyTo(SLOT_COUNT + undoNext, state);
            undoNext = undoNext + 1 < UNDO_MAX ? undoNext + 1 : 0;
            undoCount = Math.min(undoCount + 1, UNDO_MAX);
        }

        void stepBack(Encoder state) {
            undoNext = undoNext > 0 ? undoNext - 1 : UNDO_MAX - 1;
            undoCount--;
            copyBack(SLOT_COUNT + undoNext, state);
        }

        void forget() {
            savedSlots = 0;
            undoCount = 0;
        }

        private void copyTo(int place, Encoder state) {
            Encoder kept = stateAt(place);
            if (kept != null) {
                kept.copyFrom(state);
            }
        }

        private void copyBack(int place, Encoder state) {
            Encoder kept = stateAt(place);
            if (kept != null) {
                state.copyFrom(kept);
            }
        }

        private Encoder stateAt(int place) {
            return place >= 0 && place < states.length ? states[place] : null;
        }
    }

    /** A decoder with a dictionary of its own. */
    private static final class Decoder {
        private final Dictionary dictionary = new Dictionary();
        private int previous = NONE;
        private final int[] symbols = new int[SYMBOLS_MAX];
        private int count;

        void begin(Dictionary settings) {
            dictionary.begin(settings.alphabet, settings.widest);
            previous = NONE;
            count = 0;
        }

        /** Decodes a code list; if a token does not fit, answers false and leaves the tokens at it. */
        boolean readCodes(Tokens in) {
            in.step();
            for (int read = 0; read < TAPE_MAX && in.kind != KIND_END; read++) {
                if (in.kind != KIND_NUMBER || !takeCode(in.number())) {
                    return false;
                }
                in.step();
            }
            return in.kind == KIND_END;
        }

        boolean takeAll(int[] codes, int length) {
            for (int i = 0; i < length; i++) {
                if (!takeCode(at(codes, i))) {
                    return false;
                }
            }
            return true;
        }

        private boolean takeCode(int code) {
            if (code == dictionary.alphabet) {
                dictionary.keepFirstCodes();
                previous = NONE;
                return true;
            }
            if (dictionary.hasCode(code)) {
                return takePhrase(code, code, 0);
            }
            boolean isNext = code == dictionary.count && previous != NONE && !dictionary.hasNoRoom();
            return isNext && takePhrase(NONE, previous, 1);
        }

        /** Takes the phrase of a code, or of none: then it is the one that its own first symbol completes. */
        private boolean takePhrase(int code, int beginning, int more) {
            int length = dictionary.lengthOf(beginning) + more;
            if (count + length > SYMBOLS_MAX) {
                return false;
            }
            int learned = learn(dictionary.symbolOf(beginning, 0));
            previous = code == NONE ? learned : code;
            dictionary.spell(previous, symbols, count);
            count += length;
            return true;
        }

        /** The code of the previous phrase followed by a symbol, added if there is room and need for it. */
        private int learn(int symbol) {
            if (previous == NONE) {
                return NONE;
            }
            int known = dictionary.longerBy(previous, symbol);
            if (known != NONE || dictionary.hasNoRoom()) {
                return known;
            }
            return dictionary.addLonger(previous, symbol);
        }
    }

    /** The tokens of a text, one at a time; start is where the present one begins. */
    private static final class Tokens {
        private int[] text = new int[0];
        private int textLength;
        private int kind = KIND_END;
        private int start;
        private int end;

        void begin(int[] bytes, int length) {
            text = bytes;
            textLength = length;
            kind = KIND_END;
            start = 0;
            end = 0;
        }

        void step() {
            start = end;
            while (start < textLength && isBlank(at(text, start))) {
                start++;
            }
            end = start;
            if (start >= textLength) {
                kind = KIND_END;
            } else if (isLetter(at(text, start))) {
                readWord();
            } else if (isDigit(at(text, start))) {
                readNumber();
            } else {
                kind = at(text, start) == ';' ? KIND_SEMICOLON : KIND_WRONG;
                end = start + 1;
            }
        }

        private void readWord() {
            while (end < textLength && isLetter(at(text, end))) {
                end++;
            }
            kind = KIND_WORD;
        }

        private void readNumber() {
            while (end < textLength && isDigit(at(text, end))) {
                end++;
            }
            kind = end - start <= 3 ? KIND_NUMBER : KIND_WRONG;
        }

        private static boolean isBlank(int sign) {
            return sign == ' ' || sign == '\n';
        }

        private static boolean isLetter(int sign) {
            return sign >= 'a' && sign <= 'z';
        }

        private static boolean isDigit(int sign) {
            return sign >= '0' && sign <= '9';
        }

        boolean isWord(String word) {
            if (kind != KIND_WORD || end - start != word.length()) {
                return false;
            }
            for (int i = 0; i < word.length(); i++) {
                if (at(text, start + i) != word.charAt(i)) {
                    return false;
                }
            }
            return true;
        }

        /** The value of a number; the longest one has three digits. */
        int number() {
            int value = 0;
            for (int i = start; i < end; i++) {
                value = 10 * value + (at(text, i) - '0');
            }
            return value;
        }

        boolean isNumber(int least, int greatest) {
            return kind == KIND_NUMBER && number() >= least && number() <= greatest;
        }
    }

    /** What a setup text tells; if a token does not fit, the tokens are left at it. */
    private static final class SetupReader {
        private int alphabet;
        private int width;
        private int policy;
        private int limit;
        private final int[] symbols = new int[SYMBOLS_MAX];
        private int count;

        boolean readSetup(Tokens in) {
            count = 0;
            return readSizes(in) && readPolicy(in) && readStatements(in);
        }

        private boolean readSizes(Tokens in) {
            in.step();
            if (!in.isWord("lzw")) {
                return false;
            }
            in.step();
            if (!in.isNumber(ALPHABET_MIN, ALPHABET_MAX)) {
                return false;
            }
            alphabet = in.number();
            in.step();
            if (!in.isNumber(WIDTH_MIN, WIDTH_MAX)) {
                return false;
            }
            width = in.number();
            return (1 << width) >= alphabet + 2;
        }

        private boolean readPolicy(Tokens in) {
            in.step();
            policy = policyNamed(in);
            if (policy == NONE) {
                return false;
            }
            in.step();
            if (!in.isNumber(LIMIT_MIN, LIMIT_MAX)) {
                return false;
            }
            limit = in.number();
            in.step();
            return in.kind == KIND_SEMICOLON;
        }

        private static int policyNamed(Tokens in) {
            for (int named = FREEZE; named <= WATCH; named++) {
                if (in.isWord(nameOfPolicy(named))) {
                    return named;
                }
            }
            return NONE;
        }

        private boolean readStatements(Tokens in) {
            in.step();
            for (int read = 0; read < TAPE_MAX && in.kind != KIND_END; read++) {
                if (!readStatement(in)) {
                    return false;
                }
                in.step();
            }
            return in.kind == KIND_END;
        }

        private boolean readStatement(Tokens in) {
            if (!in.isWord("symbols")) {
                return false;
            }
            in.step();
            if (!readLetters(in)) {
                return false;
            }
            in.step();
            return in.kind == KIND_SEMICOLON;
        }

        private boolean readLetters(Tokens in) {
            if (in.kind != KIND_WORD || count + (in.end - in.start) > SYMBOLS_MAX) {
                return false;
            }
            for (int i = in.start; i < in.end; i++) {
                int symbol = at(in.text, i) - 'a';
                if (symbol >= alphabet) {
                    return false;
                }
                put(symbols, count, symbol);
                count++;
            }
            return true;
        }
    }

    /** The setup text that describes a state. */
    private static final class SetupWriter {
        private final int[] text = new int[SETUP_MAX];
        private int length;

        void describe(Encoder state) {
            length = 0;
            addText("lzw ");
            addNumber(state.dictionary.alphabet);
            addText(" ");
            addNumber(state.dictionary.widest);
            addText(" ");
            addText(nameOfPolicy(state.policy));
            addText(" ");
            addNumber(state.limit);
            addText(";");
            if (state.encodedLength > 0) {
                addText("symbols ");
                addSymbols(state);
                addText(";");
            }
        }

        private void addSymbols(Encoder state) {
            for (int i = 0; i < state.encodedLength; i++) {
                addSign('a' + at(state.encoded, i));
            }
        }

        private void addText(String signs) {
            for (int i = 0; i < signs.length(); i++) {
                addSign(signs.charAt(i));
            }
        }

        private void addNumber(int number) {
            if (number >= 100) {
                addSign('0' + number / 100);
            }
            if (number >= 10) {
                addSign('0' + number / 10 % 10);
            }
            addSign('0' + number % 10);
        }

        private void addSign(int sign) {
            put(text, length, sign);
            length++;
        }
    }
}

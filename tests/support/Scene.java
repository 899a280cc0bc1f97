import java.util.function.Consumer;
import java.util.function.Function;
import java.util.function.Supplier;
import java.util.function.ToIntFunction;

/**
 * A way to make the same object again and again, so that all of it can be looked at without more than 512 calls
 * on any one object. A recipe makes at most some 300 calls.
 */
final class Scene {
    private static final int ASKS_OF_ONE = 100;
    private static final int TAPE_LOOKED_AT = 30;

    private final Supplier<LzwCodec> recipe;
    private LzwCodec asked;
    private int asks = ASKS_OF_ONE;
    private String rest;

    private Scene(Supplier<LzwCodec> recipe) {
        this.recipe = recipe;
    }

    static Scene fresh() {
        return new Scene(LzwCodec::new);
    }

    static Scene of(String setup) {
        return new Scene(() -> Check.loaded(setup));
    }

    static Scene of(String setup, String letters) {
        return of(setup).then(codec -> Check.encodeText(codec, letters));
    }

    /** The same, and then one step more. */
    Scene then(Consumer<LzwCodec> step) {
        return new Scene(() -> {
            LzwCodec codec = recipe.get();
            step.accept(codec);
            return codec;
        });
    }

    /** The same, and then a step more, whatever it throws. */
    Scene trying(Consumer<LzwCodec> step) {
        return then(codec -> tried(codec, c -> {
            step.accept(c);
            return "";
        }));
    }

    LzwCodec make() {
        return recipe.get();
    }

    private static String tried(LzwCodec codec, Function<LzwCodec, Object> call) {
        try {
            return String.valueOf(call.apply(codec));
        } catch (RuntimeException e) {
            return e.getClass().getName();
        }
    }

    private LzwCodec next() {
        if (asks >= ASKS_OF_ONE) {
            asked = make();
            asks = 0;
        }
        asks++;
        return asked;
    }

    int ask(ToIntFunction<LzwCodec> call) {
        return call.applyAsInt(next());
    }

    /** The answer, or the exception that is thrown instead. */
    String answer(Function<LzwCodec, Object> call) {
        return tried(next(), call);
    }

    // ---- all that can be asked

    /** What undo brings back, by every call that tells of it. */
    String state() {
        StringBuilder text = new StringBuilder(setup());
        text.append("\nsettings");
        add(text, LzwCodec::alphabetSize, LzwCodec::greatestWidth, LzwCodec::policy, LzwCodec::limit,
                LzwCodec::plainWidth, LzwCodec::clearCode, LzwCodec::capacity);
        addDictionary(text);
        text.append("\nphrase ").append(next().hasPhrase()).append(' ').append(tried(next(), LzwCodec::currentPhrase));
        addSymbolAnswers(text);
        text.append("\nencoded ").append(encoded()).append("\nwritten ").append(written());
        addNumbers(text);
        return text.toString();
    }

    @SafeVarargs
    private void add(StringBuilder text, Function<LzwCodec, Object>... calls) {
        for (Function<LzwCodec, Object> call : calls) {
            text.append(' ').append(tried(next(), call));
        }
    }

    private void addDictionary(StringBuilder text) {
        text.append("\ndictionary");
        add(text, LzwCodec::codeCount, LzwCodec::isFull, LzwCodec::codeWidth, LzwCodec::longestPhrase,
                LzwCodec::fillShare);
        int count = ask(LzwCodec::codeCount);
        for (int i = 0; i < count; i++) {
            int code = i;
            text.append(' ').append(phrase(code));
            add(text, c -> c.usesOf(code), c -> c.extensionCount(code), c -> c.prefixOf(code));
        }
    }

    private void addSymbolAnswers(StringBuilder text) {
        int alphabet = ask(LzwCodec::alphabetSize);
        for (int i = 0; i < alphabet; i++) {
            int symbol = i;
            add(text, c -> c.codesIfEncoded(symbol), c -> c.clearsIfEncoded(symbol));
        }
    }

    private void addNumbers(StringBuilder text) {
        text.append("\nnumbers");
        add(text, LzwCodec::bitCount, LzwCodec::byteCount, LzwCodec::clearCount, LzwCodec::codesSinceClear,
                LzwCodec::symbolsSinceClear, LzwCodec::bitsSinceClear, LzwCodec::percentSinceClear,
                LzwCodec::savedBits, LzwCodec::bitsPerSymbol, LzwCodec::restoredCount, LzwCodec::isRestored);
        int bytes = ask(LzwCodec::byteCount);
        for (int i = 0; i < bytes; i++) {
            int index = i;
            add(text, c -> c.byteAt(index));
        }
    }

    String phrase(int code) {
        StringBuilder text = new StringBuilder();
        int length = ask(c -> c.phraseLength(code));
        for (int i = 0; i < length; i++) {
            int index = i;
            text.append((char) ('a' + ask(c -> c.phraseSymbol(code, index))));
        }
        return text.toString();
    }

    String encoded() {
        StringBuilder text = new StringBuilder();
        int count = ask(LzwCodec::encodedCount);
        for (int i = 0; i < count; i++) {
            int index = i;
            text.append((char) ('a' + ask(c -> c.encodedSymbol(index))));
        }
        return text.toString();
    }

    /** The written codes with their widths, as in "0/3 5/3". */
    String written() {
        StringBuilder text = new StringBuilder();
        int count = ask(LzwCodec::writtenCount);
        for (int i = 0; i < count; i++) {
            int index = i;
            text.append(i == 0 ? "" : " ").append(ask(c -> c.writtenCode(index))).append('/')
                    .append(ask(c -> c.writtenWidth(index)));
        }
        return text.toString();
    }

    String setup() {
        StringBuilder text = new StringBuilder();
        int length = ask(LzwCodec::setupLength);
        for (int i = 0; i < length; i++) {
            int index = i;
            text.append((char) ask(c -> c.setupByte(index)));
        }
        return text.toString();
    }

    String decoded() {
        StringBuilder text = new StringBuilder();
        int count = ask(LzwCodec::decodedCount);
        for (int i = 0; i < count; i++) {
            int index = i;
            text.append((char) ('a' + ask(c -> c.decodedSymbol(index))));
        }
        return text.append(' ').append(ask(LzwCodec::longestDecodedRun)).toString();
    }

    /** The changes that can be undone and the saved states, each by the state that it brings back. */
    String past() {
        StringBuilder text = new StringBuilder();
        for (int steps = 1; steps <= 9; steps++) {
            Scene before = this;
            for (int i = 1; i < steps; i++) {
                before = before.then(LzwCodec::undo);
            }
            String answer = tried(before.make(), LzwCodec::undo);
            text.append("\n-- undo ").append(steps).append(": ").append(answer);
            if (answer.length() > 1) {
                break;
            }
            text.append('\n').append(before.then(LzwCodec::undo).state());
        }
        for (int i = 0; i < 2; i++) {
            int slot = i;
            text.append("\n-- slot ").append(slot).append(": ").append(tried(make(), c -> c.restore(slot)));
            text.append('\n').append(trying(c -> c.restore(slot)).state());
        }
        return text.toString();
    }

    /** The tape, by its length and by what the calls that read it make of it and of its beginnings. */
    String tape() {
        int length = ask(c -> c.truncate(0));
        StringBuilder text = new StringBuilder("tape ").append(length);
        for (int i = 0; i <= Math.min(length, TAPE_LOOKED_AT); i++) {
            int less = i;
            Scene shorter = then(c -> c.truncate(less));
            text.append(' ').append(tried(shorter.make(), LzwCodec::findTape));
            shorter = shorter.then(LzwCodec::restart);
            text.append(' ').append(tried(shorter.make(), LzwCodec::encodeTape));
            text.append(' ').append(shorter.trying(LzwCodec::encodeTape).encoded());
        }
        Scene decoding = trying(LzwCodec::decode);
        text.append('\n').append(decoding.decoded()).append(' ').append(decoding.ask(LzwCodec::errorPosition));
        Scene loading = trying(LzwCodec::load);
        text.append('\n').append(loading.setup()).append(' ').append(loading.ask(LzwCodec::errorPosition));
        return text.toString();
    }

    /** All but the tape and the error position, which a refused load or decode sets. */
    String rest() {
        if (rest == null) {
            rest = state() + past() + "\ndecoded " + decoded();
        }
        return rest;
    }

    String all() {
        return rest() + "\n" + tape() + "\nerror " + ask(LzwCodec::errorPosition);
    }

    // ---- what a call does

    /** The call throws just this exception, and afterwards all is as before. */
    void refuses(String what, Class<? extends RuntimeException> due, Consumer<LzwCodec> call) {
        LzwCodec codec = make();
        Check.fails(what, due, () -> call.accept(codec));
        Check.same(what + ", what it leaves", all(), trying(call).all());
    }

    /** The call throws nothing; its answer is due. */
    void answers(String what, int due, ToIntFunction<LzwCodec> call) {
        LzwCodec codec = make();
        Check.same(what, String.valueOf(due), tried(codec, c -> call.applyAsInt(c)));
    }

    /** The call throws nothing. */
    void takes(String what, Consumer<LzwCodec> call) {
        answers(what, 0, codec -> {
            call.accept(codec);
            return 0;
        });
    }

    /** The text is refused by load or decode: the tape is empty then, the error is told, and all else is as before. */
    void refusesText(String text, int error, Consumer<LzwCodec> call) {
        Scene typed = then(codec -> Check.type(codec, text));
        LzwCodec codec = typed.make();
        Check.fails("\"" + text + "\"", IllegalArgumentException.class, () -> call.accept(codec));
        Check.same("\"" + text + "\", error", error, codec.errorPosition());
        Check.same("\"" + text + "\", tape", 0, codec.truncate(0));
        Check.same("\"" + text + "\", what it leaves", rest(), typed.trying(call).rest());
    }
}

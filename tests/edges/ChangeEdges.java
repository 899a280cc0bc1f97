import java.util.LinkedHashMap;
import java.util.List;
import java.util.Map;
import java.util.function.Consumer;

/** The sentences of "Changes". */
final class ChangeEdges {
    private static final String SECTION = "Changes";

    private ChangeEdges() {
    }

    static void all() {
        Sentences.holds(SECTION, "A call of encode, encodeTape, flush, restart, setPolicy, setLimit or restore that does "
                + "not throw an exception is a change, even if nothing is different afterwards.", ChangeEdges::changes);
        Sentences.holds(SECTION, "The 8 most recent changes can be undone, the most recent one first.", ChangeEdges::eight);
        Sentences.holds(SECTION, "Undoing a change makes the settings, the dictionary, the current phrase and everything "
                + "that was encoded and written as they were before", ChangeEdges::comesBack);
        Sentences.holds(SECTION, "but leaves the tape, the error position, the decoded text and the saved states as they "
                + "are.", ChangeEdges::stays);
        Sentences.holds(SECTION, "A call that throws an exception changes nothing", ChangeEdges::refusedCalls);
        Sentences.holds(SECTION, "except that load and decode empty the tape and set the error position.",
                ChangeEdges::refusedTexts);
        Sentences.holds(SECTION, "If several exceptions apply to a call, the one that is listed first is thrown.",
                ChangeEdges::severalExceptions);
        Sentences.holds("What it is", "An object is used for at most 512 calls after it has been made",
                ChangeEdges::manyCalls);
    }

    /** Calls that make nothing different when they come as the first ones, but for encode, which always does. */
    private static Map<String, Consumer<LzwCodec>> changingCalls() {
        Map<String, Consumer<LzwCodec>> calls = new LinkedHashMap<>();
        calls.put("encode", codec -> codec.encode(0));
        calls.put("encodeTape", LzwCodec::encodeTape);
        calls.put("flush", LzwCodec::flush);
        calls.put("restart", LzwCodec::restart);
        calls.put("setPolicy", codec -> codec.setPolicy(LzwCodec.RESET));
        calls.put("setLimit", codec -> codec.setLimit(90));
        calls.put("restore", codec -> codec.restore(0));
        return calls;
    }

    private static void changes() {
        Scene saved = Scene.fresh().then(codec -> codec.save(0));
        for (Map.Entry<String, Consumer<LzwCodec>> call : changingCalls().entrySet()) {
            Scene scene = saved.then(call.getValue());
            scene.answers(call.getKey(), 0, LzwCodec::undo);
            Check.same(call.getKey() + ", undone", saved.all(), scene.then(LzwCodec::undo).all());
            Scene twice = scene.then(call.getValue());
            twice.answers(call.getKey() + " twice", 1, LzwCodec::undo);
            Check.same(call.getKey() + " twice, undone", scene.all(), twice.then(LzwCodec::undo).all());
        }
        noChanges();
    }

    private static void noChanges() {
        Scene scene = Scene.fresh().then(codec -> codec.setLimit(44)).then(codec -> codec.encode(1));
        Scene later = scene.then(codec -> {
            codec.save(0);
            Check.type(codec, "0 1 5");
            codec.decode();
            Check.type(codec, "b");
            codec.findTape();
            codec.truncate(1);
            codec.errorPosition();
            codec.codesIfEncoded(1);
            codec.clearsIfEncoded(1);
        });
        later.answers("one change", 1, LzwCodec::undo);
        later.then(LzwCodec::undo).answers("before it", 0, codec -> codec.undo());
        later.then(LzwCodec::undo).then(LzwCodec::undo).refuses("an undo is none", Examples.STATE, LzwCodec::undo);
        for (Map.Entry<String, Consumer<LzwCodec>> call : askingCalls().entrySet()) {
            Check.same(call.getKey(), Examples.busy().all(), Examples.busy().then(call.getValue()).all());
        }
    }

    /** Calls that only ask, with arguments that they take in the busy example. */
    private static Map<String, Consumer<LzwCodec>> askingCalls() {
        Map<String, Consumer<LzwCodec>> calls = new LinkedHashMap<>();
        calls.put("truncate", codec -> codec.truncate(0));
        calls.put("codesIfEncoded", codec -> codec.codesIfEncoded(2));
        calls.put("clearsIfEncoded", codec -> codec.clearsIfEncoded(2));
        calls.put("findTape", LzwCodec::findTape);
        calls.put("usesOf", codec -> codec.usesOf(3));
        calls.put("longestPhrase", LzwCodec::longestPhrase);
        calls.put("extensionCount", codec -> codec.extensionCount(1));
        calls.put("restoredCount", LzwCodec::restoredCount);
        calls.put("isRestored", LzwCodec::isRestored);
        calls.put("longestDecodedRun", LzwCodec::longestDecodedRun);
        calls.put("setupLength", LzwCodec::setupLength);
        calls.put("setupByte", codec -> codec.setupByte(3));
        calls.put("byteAt", codec -> codec.byteAt(0));
        calls.put("bitAt", codec -> codec.bitAt(0));
        return calls;
    }

    /** Each of these makes something different, so that each state tells how many of them have come. */
    private static final List<Consumer<LzwCodec>> STEPS = List.of(
            codec -> codec.encode(1),
            codec -> Check.encodeText(codec, "abcabcab"),
            codec -> codec.setLimit(7),
            LzwCodec::flush,
            codec -> codec.setPolicy(LzwCodec.WATCH),
            codec -> Check.encodeText(codec, "abababa"),
            codec -> codec.restore(0),
            codec -> codec.encode(2),
            LzwCodec::restart,
            codec -> Check.encodeText(codec, "ccc"),
            codec -> codec.restore(1));

    private static Scene steps(int count) {
        Scene scene = Scene.of("lzw 3 3 reset 90;", "ba").then(codec -> codec.save(0)).then(LzwCodec::flush)
                .then(codec -> Check.encodeText(codec, "cabcab")).then(codec -> codec.save(1));
        for (Consumer<LzwCodec> step : STEPS.subList(0, count)) {
            scene = scene.then(step);
        }
        return scene;
    }

    private static void eight() {
        for (int count : new int[] {8, 9, 11}) {
            Scene scene = steps(count);
            for (int left = 7; left >= 0; left--) {
                scene.answers(count + " steps, left", left, LzwCodec::undo);
                scene = scene.then(LzwCodec::undo);
                Check.same(count + " steps, the state", steps(count - 8 + left).state(), scene.state());
            }
            scene.refuses(count + " steps, the ninth", Examples.STATE, LzwCodec::undo);
        }
        // Changes that are undone make room again, and the ring of the states goes on behind them.
        Scene scene = steps(9).then(LzwCodec::undo).then(LzwCodec::undo).then(LzwCodec::undo);
        for (int i = 0; i < 3; i++) {
            scene = scene.then(LzwCodec::flush);
        }
        scene.answers("5 and 3 changes", 7, LzwCodec::undo);
        scene.then(LzwCodec::flush).answers("5 and 4 changes", 7, LzwCodec::undo);
        for (int i = 0; i < 8; i++) {
            scene = scene.then(LzwCodec::undo);
        }
        Check.same("5 and 3 changes, all undone", steps(1).state(), scene.state());
    }

    private static void comesBack() {
        for (int count = 1; count <= STEPS.size(); count++) {
            Scene undone = steps(count).then(LzwCodec::undo);
            Check.same("step " + count, steps(count - 1).state(), undone.state());
            Scene on = undone.then(codec -> Check.encodeText(codec, "bbacabca"));
            Scene due = steps(count - 1).then(codec -> Check.encodeText(codec, "bbacabca"));
            Check.same("step " + count + ", encoding goes on", due.state(), on.state());
        }
        comesBackAsAWhole();
    }

    /** After a new start the same codes and places hold something else; all of it has to come back. */
    private static void comesBackAsAWhole() {
        Scene before = Scene.of("lzw 4 4 freeze 90;", "abacadbcbabacc");
        Scene other = before.then(codec -> codec.save(0)).then(LzwCodec::restart)
                .then(codec -> Check.encodeText(codec, "ba")).then(LzwCodec::flush)
                .then(codec -> Check.encodeText(codec, "dcdbdadcbd"));
        Scene undone = other.then(LzwCodec::undo).then(LzwCodec::undo).then(LzwCodec::undo).then(LzwCodec::undo);
        Scene restored = other.then(codec -> codec.restore(0));
        for (Scene scene : new Scene[] {undone, restored}) {
            Check.same("the state", before.state(), scene.state());
            Check.same("the longer phrases", extensions(before), extensions(scene));
            Scene on = scene.then(codec -> Check.encodeText(codec, "abacadbcba"));
            Check.same("encoding goes on", before.then(codec -> Check.encodeText(codec, "abacadbcba")).state(), on.state());
        }
        Check.same("something else was there", false, extensions(before).equals(extensions(other)));
    }

    private static String extensions(Scene scene) {
        StringBuilder text = new StringBuilder();
        int count = scene.ask(LzwCodec::codeCount);
        for (int i = 0; i < count; i++) {
            int code = i;
            for (int j = 0; j < scene.ask(LzwCodec::alphabetSize); j++) {
                int symbol = j;
                text.append(' ').append(scene.answer(codec -> codec.extensionOf(code, symbol)));
            }
        }
        return text.toString();
    }

    private static void stays() {
        Scene scene = Scene.of("lzw 3 4 reset 90;", "ab").then(codec -> codec.encode(2)).then(codec -> {
            codec.save(0);
            Check.decodeText(codec, "2 2 1");
            Check.type(codec, "0 1 9");
        }).trying(LzwCodec::decode).then(codec -> Check.type(codec, "abc"));
        Scene undone = scene.then(LzwCodec::undo);
        undone.answers("the tape", 3, codec -> codec.truncate(0));
        Check.same("the tape", "ababc", undone.then(LzwCodec::encodeTape).encoded());
        undone.answers("the error position", 4, LzwCodec::errorPosition);
        Check.same("the decoded text", "ccb 2", undone.decoded());
        undone.answers("the saved state", 3, codec -> codec.restore(0));
        Check.same("the saved state", scene.state(), undone.then(codec -> codec.restore(0)).state());
        Scene encoded = scene.then(LzwCodec::encodeTape).then(LzwCodec::undo);
        encoded.answers("the empty tape", 0, codec -> codec.truncate(0));
        Scene correct = scene.then(codec -> codec.truncate(3)).then(LzwCodec::decode).then(LzwCodec::undo);
        correct.answers("no error position", -1, LzwCodec::errorPosition);
        Check.same("an empty decoded text", " 0", correct.decoded());
    }

    private static void refusedCalls() {
        Scene busy = Examples.busy();
        busy.then(codec -> Check.type(codec, "d")).refuses("encodeTape", Examples.ARGUMENT, LzwCodec::encodeTape);
        busy.refuses("truncate", Examples.ARGUMENT, codec -> codec.truncate(4));
        busy.refuses("encode", Examples.ARGUMENT, codec -> codec.encode(3));
        busy.refuses("setPolicy", Examples.ARGUMENT, codec -> codec.setPolicy(3));
        busy.refuses("setLimit", Examples.ARGUMENT, codec -> codec.setLimit(201));
        busy.refuses("save", Examples.ARGUMENT, codec -> codec.save(2));
        busy.refuses("restore", Examples.ARGUMENT, codec -> codec.restore(2));
        busy.refuses("restore nothing", Examples.NO_SUCH, codec -> codec.restore(0));
        busy.refuses("codesIfEncoded", Examples.ARGUMENT, codec -> codec.codesIfEncoded(3));
        busy.refuses("clearsIfEncoded", Examples.ARGUMENT, codec -> codec.clearsIfEncoded(3));
        busy.then(codec -> Check.type(codec, "b")).refuses("findTape", Examples.NO_SUCH, LzwCodec::findTape);
        Scene.fresh().refuses("undo", Examples.STATE, LzwCodec::undo);
        Scene.fresh().refuses("currentPhrase", Examples.NO_SUCH, LzwCodec::currentPhrase);
        Scene full = Scene.of("lzw 2 3 reset 90;", "ab".repeat(200)).then(codec -> Check.type(codec, "b".repeat(800)));
        full.refuses("encode, 400 symbols", Examples.STATE, codec -> codec.encode(0));
        full.refuses("encodeTape, 400 symbols", Examples.STATE, LzwCodec::encodeTape);
        full.refuses("append, 800 bytes", Examples.STATE, codec -> codec.append(0, 0, 0, 0, 0));
    }

    private static void refusedTexts() {
        Scene scene = Examples.busy().then(codec -> codec.truncate(3));
        scene.refusesText("lzw 2 3 freeze 9;symbols abab;symbols", 37, LzwCodec::load);
        scene.refusesText("0 0 0 0 77", 8, LzwCodec::decode);
        scene.refusesText("", 0, LzwCodec::load);
        scene.refusesText("?", 0, LzwCodec::decode);
    }

    private static void severalExceptions() {
        Scene busy = Examples.busy();
        Scene full = Scene.of("lzw 3 3 reset 90;", "ab".repeat(200));
        full.refuses("encode: symbol, 400 symbols", Examples.ARGUMENT, codec -> codec.encode(3));
        full.then(codec -> Check.type(codec, "ad"))
                .refuses("encodeTape: letter, 400 symbols", Examples.ARGUMENT, LzwCodec::encodeTape);
        full.then(codec -> Check.type(codec, "a".repeat(799) + "d"))
                .refuses("encodeTape: the last letter, 800 symbols", Examples.ARGUMENT, LzwCodec::encodeTape);
        Scene.fresh().refuses("restore: slot, nothing saved", Examples.ARGUMENT, codec -> codec.restore(2));
        int beyond = busy.ask(LzwCodec::codeCount);
        busy.refuses("phraseSymbol: code, index", Examples.INDEX, codec -> codec.phraseSymbol(beyond, -1));
        busy.refuses("prefixOf: code", Examples.INDEX, codec -> codec.prefixOf(beyond));
        busy.refuses("extensionOf: code, symbol", Examples.INDEX, codec -> codec.extensionOf(beyond, 3));
        busy.refuses("extensionOf: code, phrase", Examples.INDEX, codec -> codec.extensionOf(-1, 0));
        busy.refuses("extensionOf: symbol, phrase", Examples.ARGUMENT, codec -> codec.extensionOf(2, 3));
        busy.refuses("extensionOf: symbol, clear code", Examples.ARGUMENT, codec -> codec.extensionOf(3, -1));
        busy.refuses("extensionOf: clear code, phrase", Examples.ARGUMENT, codec -> codec.extensionOf(3, 0));
    }

    private static void manyCalls() {
        LzwCodec codec = new LzwCodec();
        for (int i = 0; i < 400; i++) {
            codec.encode(i / 2 % 4);
        }
        codec.save(0);
        for (int i = 0; i < 27; i++) {
            Check.same("flush", 2, codec.flush());
            Check.same("isRestored", true, codec.isRestored());
            Check.same("undo", 7, codec.undo());
            Check.same("restore", 400, codec.restore(0));
        }
        Check.same("call 510", 3, codec.encodedSymbol(399));
        Check.same("call 511", 2, codec.flush());
        Check.same("call 512", 400, codec.restoredCount());
    }
}

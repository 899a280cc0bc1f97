import java.util.function.ToIntBiFunction;

/** Promises 21 to 37: the clear code, the dictionary and the current phrase. */
final class AnswerEdges {
    private static final String ARGUMENT = "IllegalArgumentException";
    private static final String INDEX = "IndexOutOfBoundsException";
    private static final String NO_SUCH = "NoSuchElementException";
    private static final String NO_CODE = "if the dictionary has no such code";
    // All its 256 codes are in use: 3 .. 255 of "aa", "ab" ..; the last of the letters is the current phrase.
    private static final String PAIRS = Examples.differentPairs(16, Examples.lettersToFill(16, 8));

    private AnswerEdges() {
    }

    static void all() {
        counts();
        phrases();
        extensions();
        searches();
        currentPhrases();
    }

    private static Scene widest() {
        return Scene.of("lzw 16 8 reset 90;", PAIRS);
    }

    /** A call that takes a code takes each that the dictionary has, and no other. */
    private static void takesCodes(ToIntBiFunction<LzwCodec, Integer> call) {
        for (Scene scene : new Scene[] {Examples.busy(), Scene.fresh(), Scene.of("lzw 2 3 freeze 1;", "abaabbb")}) {
            int count = scene.ask(LzwCodec::codeCount);
            scene.takes("code 0", codec -> call.applyAsInt(codec, 0));
            scene.refuses("code -1", Examples.INDEX, codec -> call.applyAsInt(codec, -1));
            scene.refuses("the next code", Examples.INDEX, codec -> call.applyAsInt(codec, count));
            scene.refuses("the one behind it", Examples.INDEX, codec -> call.applyAsInt(codec, count + 1));
            for (int code : Examples.farNumbers()) {
                scene.refuses(String.valueOf(code), Examples.INDEX, codec -> call.applyAsInt(codec, code));
            }
        }
        LzwCodec full = widest().make();
        Check.fails("code 256 of 256", Examples.INDEX, () -> call.applyAsInt(full, 256));
        full.flush();
        Check.fails("code 255, cleared", Examples.INDEX, () -> call.applyAsInt(full, 255));
        Check.fails("the first one that was added, cleared", Examples.INDEX, () -> call.applyAsInt(full, 17));
    }

    private static void takesLastCode(ToIntBiFunction<LzwCodec, Integer> call) {
        for (Scene scene : new Scene[] {Examples.busy(), Scene.of("lzw 2 3 freeze 1;", "abaabbb"), widest()}) {
            int last = scene.ask(LzwCodec::codeCount) - 1;
            scene.takes("the last code", codec -> call.applyAsInt(codec, last));
        }
    }

    // ---- counts

    private static void counts() {
        Sentences.returns(21, "the code, which is the alphabet size.", AnswerEdges::clearCode);
        Sentences.returns(22, "the number of codes; it is also the next code that would be added.",
                AnswerEdges::codeCount);
        Sentences.returns(24, "true if it has as many codes as its capacity.", AnswerEdges::isFull);
        Sentences.returns(25, "the number of bits.", AnswerEdges::codeWidth);
    }

    private static void clearCode() {
        for (int size = 2; size <= 26; size++) {
            Scene scene = Scene.of("lzw " + size + " 8 reset 90;", "ab");
            Check.same("of " + size, size, scene.ask(LzwCodec::clearCode));
            Check.same("as it is written", size, scene.then(LzwCodec::flush).ask(codec -> codec.writtenCode(2)));
        }
    }

    private static void codeCount() {
        Scene scene = Scene.of("lzw 2 3 freeze 90;");
        String letters = "abaabbbaab";
        int[] due = {3, 4, 5, 6, 6, 7, 8, 8, 8, 8};
        for (int i = 0; i < letters.length(); i++) {
            int symbol = letters.charAt(i) - 'a';
            int before = scene.ask(LzwCodec::codeCount);
            scene = scene.then(codec -> codec.encode(symbol));
            Check.same("symbol " + i, due[i], scene.ask(LzwCodec::codeCount));
            if (due[i] > before) {
                scene.takes("the code that was added", codec -> codec.prefixOf(before));
            }
        }
        Check.same("cleared", 3, scene.then(LzwCodec::flush).ask(LzwCodec::codeCount));
        Check.same("the most", 256, widest().ask(LzwCodec::codeCount));
        Check.same("the least", 3, Scene.of("lzw 2 3 reset 1;").ask(LzwCodec::codeCount));
    }

    private static void isFull() {
        Scene scene = Scene.of("lzw 2 3 freeze 90;", "abaabb");
        Check.same("7 of 8", false, scene.make().isFull());
        Scene full = scene.then(codec -> codec.encode(1));
        Check.same("8 of 8", true, full.make().isFull());
        Check.same("8 of 8, and more", true, full.then(codec -> Check.encodeText(codec, "aabb")).make().isFull());
        Check.same("8 of 8, cleared", false, full.then(LzwCodec::flush).make().isFull());
        Check.same("8 of 8, undone", false, full.then(LzwCodec::undo).make().isFull());
        Check.same("256 of 256", true, widest().make().isFull());
        Scene less = Scene.of("lzw 16 8 reset 90;", PAIRS.substring(0, PAIRS.length() - 1));
        Check.same("255 of 256", false, less.make().isFull());
    }

    private static void codeWidth() {
        int[] last = {2, 4, 8, 16, 27};
        for (int bits = 2; bits <= 5; bits++) {
            for (int count = Math.max(3, last[bits - 2] + 1); count <= last[bits - 1]; count++) {
                Scene scene = Scene.of("lzw " + (count - 1) + " 8 reset 90;");
                Check.same("with " + count + " codes", bits, scene.ask(LzwCodec::codeWidth));
            }
        }
        for (int count : new int[] {31, 32, 33, 63, 64, 65, 127, 128, 129, 255, 256}) {
            Scene scene = Scene.of("lzw 16 8 reset 90;", PAIRS.substring(0, count - 17 + 1));
            Check.same("codes", count, scene.ask(LzwCodec::codeCount));
            int due = count <= 32 ? 5 : count <= 64 ? 6 : count <= 128 ? 7 : 8;
            Check.same("with " + count + " codes", due, scene.ask(LzwCodec::codeWidth));
        }
    }

    // ---- phrases

    private static void phrases() {
        Sentences.returns(26, "the number of symbols; 0 for the clear code.", AnswerEdges::phraseLength);
        Sentences.refuses(26, INDEX, NO_CODE, () -> {
            takesCodes((codec, code) -> codec.phraseLength(code));
            takesLastCode((codec, code) -> codec.phraseLength(code));
        });
        Sentences.returns(27, "the symbol.", AnswerEdges::phraseSymbol);
        Sentences.refuses(27, INDEX, "if the dictionary has no such code, or the phrase has no such symbol", () -> {
            takesCodes((codec, code) -> codec.phraseSymbol(code, 0));
            takesLastCode((codec, code) -> codec.phraseSymbol(code, codec.phraseLength(code) - 1));
            noSuchSymbol();
        });
        Sentences.returns(28, "the code.", AnswerEdges::prefix);
        Sentences.refuses(28, INDEX, NO_CODE, AnswerEdges::prefixOfNoCode);
        Sentences.refuses(28, NO_SUCH, "if the phrase has fewer than 2 symbols", AnswerEdges::noPrefix);
    }

    private static void phraseLength() {
        Scene scene = Scene.of("lzw 2 8 freeze 90;", Examples.repeated('a', 400));
        scene.answers("a symbol", 1, codec -> codec.phraseLength(1));
        scene.answers("the clear code", 0, codec -> codec.phraseLength(2));
        scene.answers("two symbols", 2, codec -> codec.phraseLength(3));
        scene.answers("the longest that there can be", 28, codec -> codec.phraseLength(29));
        scene.refuses("the next code", Examples.INDEX, codec -> codec.phraseLength(30));
    }

    private static void phraseSymbol() {
        Scene scene = Scene.of("lzw 4 4 reset 90;", "abababac");
        scene.answers("of a symbol", 3, codec -> codec.phraseSymbol(3, 0));
        int[] abac = {0, 1, 0, 2};
        for (int i = 0; i < abac.length; i++) {
            int index = i;
            scene.answers("of abac", abac[index], codec -> codec.phraseSymbol(8, index));
        }
    }

    private static void noSuchSymbol() {
        Scene scene = Examples.busy();
        for (int i = 0; i < scene.ask(LzwCodec::codeCount); i++) {
            int code = i;
            int length = scene.ask(codec -> codec.phraseLength(code));
            scene.refuses("behind the phrase of " + code, Examples.INDEX, codec -> codec.phraseSymbol(code, length));
            scene.refuses("before the phrase of " + code, Examples.INDEX, codec -> codec.phraseSymbol(code, -1));
        }
        for (int index : Examples.farNumbers()) {
            scene.refuses("symbol " + index, Examples.INDEX, codec -> codec.phraseSymbol(4, index));
        }
    }

    private static void prefix() {
        Scene scene = Scene.of("lzw 4 4 reset 90;", "abababac");
        scene.answers("of ab", 0, codec -> codec.prefixOf(5));
        scene.answers("of ba", 1, codec -> codec.prefixOf(6));
        scene.answers("of aba", 5, codec -> codec.prefixOf(7));
        scene.answers("of abac", 7, codec -> codec.prefixOf(8));
    }

    private static void prefixOfNoCode() {
        for (Scene scene : new Scene[] {Examples.busy(), Scene.of("lzw 2 3 freeze 1;", "abaabbb"), widest()}) {
            int count = scene.ask(LzwCodec::codeCount);
            scene.takes("the last code", codec -> codec.prefixOf(count - 1));
            LzwCodec codec = scene.make();
            Check.fails("the next code", Examples.INDEX, () -> codec.prefixOf(count));
        }
        Scene scene = Examples.busy();
        int count = scene.ask(LzwCodec::codeCount);
        scene.refuses("the next code", Examples.INDEX, codec -> codec.prefixOf(count));
        scene.refuses("code -1", Examples.INDEX, codec -> codec.prefixOf(-1));
        for (int code : Examples.farNumbers()) {
            scene.refuses(String.valueOf(code), Examples.INDEX, codec -> codec.prefixOf(code));
        }
        Scene.fresh().refuses("the first code that would be added", Examples.INDEX, codec -> codec.prefixOf(5));
    }

    private static void noPrefix() {
        Scene scene = Examples.busy();
        for (int i = 0; i < 4; i++) {
            int code = i;
            scene.refuses(i == 3 ? "the clear code" : "a symbol", Examples.NO_SUCH, codec -> codec.prefixOf(code));
        }
        scene.takes("two symbols", codec -> codec.prefixOf(4));
    }

    // ---- longer phrases

    private static void extensions() {
        Sentences.returns(29, "the code of the longer phrase.", AnswerEdges::extension);
        Sentences.refuses(29, INDEX, NO_CODE, AnswerEdges::extensionOfNoCode);
        Sentences.refuses(29, ARGUMENT, "if symbol is out of range, or code is the clear code",
                AnswerEdges::extensionByNoSymbol);
        Sentences.refuses(29, NO_SUCH, "if the dictionary has no such phrase", AnswerEdges::noExtension);
        Sentences.returns(30, "the number of codes; 0 for the clear code.", AnswerEdges::extensionCount);
        Sentences.refuses(30, INDEX, NO_CODE, () -> {
            takesCodes((codec, code) -> codec.extensionCount(code));
            takesLastCode((codec, code) -> codec.extensionCount(code));
        });
    }

    private static void extension() {
        Scene scene = widest();
        for (int code = 17; code < 256; code++) {
            int first = PAIRS.charAt(code - 17) - 'a';
            int second = PAIRS.charAt(code - 16) - 'a';
            Check.same("code " + code, code, scene.ask(codec -> codec.extensionOf(first, second)));
        }
        Scene longer = Scene.of("lzw 4 4 reset 90;", "abababac");
        longer.answers("aba", 7, codec -> codec.extensionOf(5, 0));
        longer.answers("abac", 8, codec -> codec.extensionOf(7, 2));
    }

    private static void extensionOfNoCode() {
        Scene scene = Examples.busy();
        int count = scene.ask(LzwCodec::codeCount);
        scene.takes("code 1", codec -> codec.extensionOf(1, 2));
        scene.refuses("the last code has none", Examples.NO_SUCH, codec -> codec.extensionOf(count - 1, 0));
        scene.refuses("the next code", Examples.INDEX, codec -> codec.extensionOf(count, 0));
        scene.refuses("code -1", Examples.INDEX, codec -> codec.extensionOf(-1, 0));
        for (int code : Examples.farNumbers()) {
            scene.refuses(String.valueOf(code), Examples.INDEX, codec -> codec.extensionOf(code, 0));
        }
        LzwCodec full = widest().make();
        Check.fails("code 255 of 256 has none", Examples.NO_SUCH, () -> full.extensionOf(255, 0));
        Check.fails("code 256 of 256", Examples.INDEX, () -> full.extensionOf(256, 0));
    }

    private static void extensionByNoSymbol() {
        Scene scene = Examples.busy();
        for (int i = 0; i < 3; i++) {
            int code = i;
            scene.refuses("symbol -1", Examples.ARGUMENT, codec -> codec.extensionOf(code, -1));
            scene.refuses("symbol 3", Examples.ARGUMENT, codec -> codec.extensionOf(code, 3));
            scene.refuses("the clear code", Examples.ARGUMENT, codec -> codec.extensionOf(3, code));
        }
        for (int symbol : Examples.farNumbers()) {
            scene.refuses("symbol " + symbol, Examples.ARGUMENT, codec -> codec.extensionOf(1, symbol));
        }
        scene.answers("symbol 2", 4, codec -> codec.extensionOf(1, 2));
        Scene first = Scene.of("lzw 3 4 watch 120;", "baac");
        first.answers("symbol 0", 4, codec -> codec.extensionOf(1, 0));
        first.refuses("the code beside the clear code", Examples.NO_SUCH, codec -> codec.extensionOf(2, 0));
        first.refuses("the code behind the clear code", Examples.NO_SUCH, codec -> codec.extensionOf(4, 0));
    }

    private static void noExtension() {
        Scene scene = Scene.of("lzw 4 4 reset 90;", "abababac");
        for (int symbol : new int[] {0, 2, 3}) {
            scene.refuses("a and " + symbol, Examples.NO_SUCH, codec -> codec.extensionOf(0, symbol));
        }
        scene.answers("ab", 5, codec -> codec.extensionOf(0, 1));
        scene.refuses("the longest phrase", Examples.NO_SUCH, codec -> codec.extensionOf(8, 0));
        scene.then(LzwCodec::flush).refuses("ab, cleared", Examples.NO_SUCH, codec -> codec.extensionOf(0, 1));
        scene.then(LzwCodec::restart).refuses("ab, begun anew", Examples.NO_SUCH, codec -> codec.extensionOf(0, 1));
    }

    private static void extensionCount() {
        Scene scene = Examples.busy();
        scene.answers("the clear code", 0, codec -> codec.extensionCount(3));
        Scene pairs = Scene.of("lzw 3 4 freeze 90;", Examples.differentPairs(3, 9) + "a");
        for (int i = 0; i < 3; i++) {
            int symbol = i;
            pairs.answers("all that there can be of " + symbol, 3, codec -> codec.extensionCount(symbol));
        }
        pairs.answers("the clear code", 0, codec -> codec.extensionCount(3));
        pairs.answers("a pair", 0, codec -> codec.extensionCount(4));
        Scene.fresh().answers("none", 0, codec -> codec.extensionCount(0));
        Scene.of("lzw 4 4 reset 90;", "ab").answers("one", 1, codec -> codec.extensionCount(0));
        pairs.then(LzwCodec::flush).answers("cleared", 0, codec -> codec.extensionCount(0));
    }

    // ---- searches

    private static void searches() {
        Sentences.returns(31, "the smallest of the codes whose phrases are longest.", AnswerEdges::longestPhrase);
        Sentences.returns(32, "the number of times.", AnswerEdges::uses);
        Sentences.refuses(32, INDEX, NO_CODE, () -> {
            takesCodes((codec, code) -> codec.usesOf(code));
            takesLastCode((codec, code) -> codec.usesOf(code));
        });
        Sentences.returns(33, "the code of the phrase.", AnswerEdges::found);
        Sentences.refuses(33, NO_SUCH, "if the dictionary has no such phrase", AnswerEdges::notFound);
    }

    private static void longestPhrase() {
        Scene.fresh().answers("of the first codes", 0, LzwCodec::longestPhrase);
        Scene.of("lzw 4 4 reset 90;", "ab").answers("of one that is added", 5, LzwCodec::longestPhrase);
        Scene.of("lzw 4 4 reset 90;", "abcd").answers("of three as long", 5, LzwCodec::longestPhrase);
        Scene scene = Scene.of("lzw 4 4 reset 90;", "abababac");
        scene.answers("the last one", 8, LzwCodec::longestPhrase);
        scene.then(codec -> codec.encode(3)).answers("the one before the last", 8, LzwCodec::longestPhrase);
        scene.then(LzwCodec::flush).answers("cleared", 0, LzwCodec::longestPhrase);
        widest().answers("of 239 as long", 17, LzwCodec::longestPhrase);
        Scene.of("lzw 2 3 freeze 90;", "a".repeat(16)).answers("the last of a full one", 7, LzwCodec::longestPhrase);
    }

    private static void uses() {
        Scene scene = Scene.of("lzw 2 3 reset 90;", "abaabbbaa");
        int[] due = {2, 2, 1};
        for (int code = 0; code < due.length; code++) {
            int number = code;
            scene.answers("code " + number, due[number], codec -> codec.usesOf(number));
        }
        scene.then(codec -> Check.encodeText(codec, "baaba"))
                .answers("a code that was written before the clearing", 2, codec -> codec.usesOf(3));
        Scene.fresh().answers("none", 0, codec -> codec.usesOf(0));
        scene.then(LzwCodec::restart).answers("begun anew", 0, codec -> codec.usesOf(0));
        Scene often = Scene.of("lzw 2 3 reset 90;").then(codec -> {
            for (int i = 0; i < 100; i++) {
                codec.encode(1);
                codec.flush();
            }
        });
        often.answers("before and after 100 clearings", 100, codec -> codec.usesOf(1));
        often.answers("the clear code", 100, codec -> codec.usesOf(2));
    }

    private static Scene found(String letters) {
        return Scene.of("lzw 4 4 reset 90;", "abababac").then(codec -> Check.type(codec, letters));
    }

    private static void found() {
        String[] phrases = {"a", "b", "c", "d", "", "ab", "ba", "aba", "abac"};
        for (int code = 0; code < phrases.length; code++) {
            if (code != 4) {
                found(phrases[code]).answers(phrases[code], code, LzwCodec::findTape);
                found(phrases[code]).then(LzwCodec::findTape)
                        .answers("the tape stays", phrases[code].length(), codec -> codec.truncate(0));
            }
        }
        Scene longest = Scene.of("lzw 2 8 freeze 90;", Examples.repeated('a', 400));
        longest.then(codec -> Check.type(codec, "a".repeat(28))).answers("28 letters", 29, LzwCodec::findTape);
        longest.then(codec -> Check.type(codec, "a".repeat(29)))
                .refuses("29 letters", Examples.NO_SUCH, LzwCodec::findTape);
    }

    private static void notFound() {
        for (String letters : new String[] {"", "e", "z", "`", "{", "A", "0", " ", ";", "ac", "aa", "abe", "ab`", "abaca",
                "aca", "aaa", "caba", "dab", "abac ", " abac", "\u0000", "\u00ff", "a\u0080", "ab\u00e1"}) {
            found(letters).refuses("\"" + letters + "\"", Examples.NO_SUCH, LzwCodec::findTape);
        }
        found("a".repeat(800)).refuses("800 letters", Examples.NO_SUCH, LzwCodec::findTape);
        found("ab").then(LzwCodec::flush).refuses("ab, cleared", Examples.NO_SUCH, LzwCodec::findTape);
    }

    // ---- the current phrase

    private static void currentPhrases() {
        Sentences.returns(34, "true if so.", AnswerEdges::hasPhrase);
        Sentences.returns(35, "the code.", AnswerEdges::currentPhrase);
        Sentences.refuses(35, NO_SUCH, "if there is none", AnswerEdges::noPhrase);
        Sentences.returns(36, "the number of codes, 0 to 2.", AnswerEdges::codesIfEncoded);
        Sentences.refuses(36, ARGUMENT, "if symbol is out of range", () -> symbols(LzwCodec::codesIfEncoded));
        Sentences.returns(37, "1 if so, otherwise 0.", AnswerEdges::clearsIfEncoded);
        Sentences.refuses(37, ARGUMENT, "if symbol is out of range", () -> symbols(LzwCodec::clearsIfEncoded));
    }

    private static void hasPhrase() {
        Scene one = Scene.fresh().then(codec -> codec.encode(0));
        Check.same("at first", false, Scene.fresh().make().hasPhrase());
        Check.same("after a symbol", true, one.make().hasPhrase());
        Check.same("after a flush", false, one.then(LzwCodec::flush).make().hasPhrase());
        Check.same("after a new start", false, one.then(LzwCodec::restart).make().hasPhrase());
        Check.same("after undo", false, one.then(LzwCodec::undo).make().hasPhrase());
        Check.same("after load of no symbols", false, Scene.of("lzw 2 3 reset 90;").make().hasPhrase());
        Check.same("after load of a symbol", true, Scene.of("lzw 2 3 reset 90;symbols a;").make().hasPhrase());
    }

    private static void currentPhrase() {
        Scene.fresh().then(codec -> codec.encode(0)).answers("the first symbol", 0, LzwCodec::currentPhrase);
        Scene.fresh().then(codec -> codec.encode(3)).answers("the last symbol", 3, LzwCodec::currentPhrase);
        Scene.of("lzw 4 4 reset 90;", "abab").answers("the first that was added", 5, LzwCodec::currentPhrase);
        Scene full = Scene.of("lzw 2 3 freeze 90;", "abaabbb");
        full.answers("a symbol of a full dictionary", 1, LzwCodec::currentPhrase);
        full.then(codec -> codec.encode(1)).answers("the last code of a full one", 7, LzwCodec::currentPhrase);
    }

    private static void noPhrase() {
        Scene.fresh().refuses("at first", Examples.NO_SUCH, LzwCodec::currentPhrase);
        Scene scene = Examples.busy();
        scene.takes("some", LzwCodec::currentPhrase);
        scene.then(LzwCodec::flush).refuses("after a flush", Examples.NO_SUCH, LzwCodec::currentPhrase);
        scene.then(LzwCodec::restart).refuses("after a new start", Examples.NO_SUCH, LzwCodec::currentPhrase);
        Scene.of("lzw 2 3 reset 90;").refuses("after load", Examples.NO_SUCH, LzwCodec::currentPhrase);
    }

    private static void codesIfEncoded() {
        Scene reset = Scene.of("lzw 2 3 reset 90;", "abaabb");
        Scene.fresh().answers("without a phrase", 0, codec -> codec.codesIfEncoded(3));
        reset.answers("with room for one code", 1, codec -> codec.codesIfEncoded(1));
        Scene full = reset.then(codec -> codec.encode(1));
        full.answers("a longer phrase of a full dictionary", 0, codec -> codec.codesIfEncoded(1));
        full.then(codec -> codec.encode(0)).answers("a full dictionary", 2, codec -> codec.codesIfEncoded(0));
        Scene frozen = full.then(codec -> codec.encode(0)).then(codec -> codec.setPolicy(LzwCodec.FREEZE));
        frozen.answers("a full dictionary that stays", 1, codec -> codec.codesIfEncoded(0));
        Scene most = Scene.of("lzw 2 3 reset 90;", "ab".repeat(200));
        most.takes("no exception is listed for 400 symbols", codec -> codec.codesIfEncoded(0));
    }

    private static void clearsIfEncoded() {
        Scene full = Scene.of("lzw 2 3 watch 200;", "abaabbba");
        full.answers("200 is not greater than 200", 0, codec -> codec.clearsIfEncoded(0));
        full.then(codec -> codec.setLimit(199)).answers("greater than the limit", 1, codec -> codec.clearsIfEncoded(0));
        full.then(codec -> codec.setPolicy(LzwCodec.RESET)).answers("reset", 1, codec -> codec.clearsIfEncoded(0));
        full.then(codec -> codec.setPolicy(LzwCodec.FREEZE)).answers("freeze", 0, codec -> codec.clearsIfEncoded(0));
        Scene.of("lzw 2 3 reset 90;", "abaabb").answers("7 codes of 8", 0, codec -> codec.clearsIfEncoded(1));
        Scene.fresh().answers("without a phrase", 0, codec -> codec.clearsIfEncoded(0));
        Scene most = Scene.of("lzw 2 3 reset 90;", "ab".repeat(200));
        most.takes("no exception is listed for 400 symbols", codec -> codec.clearsIfEncoded(0));
    }

    private static void symbols(ToIntBiFunction<LzwCodec, Integer> call) {
        Scene scene = Examples.busy();
        scene.takes("0", codec -> call.applyAsInt(codec, 0));
        scene.takes("the last one", codec -> call.applyAsInt(codec, 2));
        scene.refuses("-1", Examples.ARGUMENT, codec -> call.applyAsInt(codec, -1));
        scene.refuses("the clear code", Examples.ARGUMENT, codec -> call.applyAsInt(codec, 3));
        for (int symbol : Examples.farNumbers()) {
            scene.refuses(String.valueOf(symbol), Examples.ARGUMENT, codec -> call.applyAsInt(codec, symbol));
        }
    }
}

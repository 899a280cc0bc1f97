import java.util.function.Consumer;

/** Promises 1 to 15: what these calls answer and throw. */
final class CallEdges {
    private static final String ARGUMENT = "IllegalArgumentException";
    private static final String STATE = "IllegalStateException";
    private static final String NO_SUCH = "NoSuchElementException";

    private CallEdges() {
    }

    static void all() {
        Sentences.holds("Promise 1", "Creates the state that load would create from the text \"lzw 4 4 reset 90;\", with an "
                + "empty tape.", CallEdges::newObject);
        tape();
        texts();
        encoding();
        settings();
        states();
    }

    private static void newObject() {
        Check.same("all of it", Scene.of("lzw 4 4 reset 90;").all(), Scene.fresh().all());
        Check.same("tape", 0, new LzwCodec().truncate(0));
        Check.same("error", -1, new LzwCodec().errorPosition());
        Scene.fresh().refuses("undo", Examples.STATE, LzwCodec::undo);
        Scene.fresh().refuses("restore", Examples.NO_SUCH, codec -> codec.restore(0));
    }

    // ---- the tape

    private static void tape() {
        Sentences.holds("Promise 2", "Each parameter contributes its four bytes, most significant byte first, in the order "
                + "of the parameters.", CallEdges::orderOfBytes);
        Sentences.returns(2, "the new length of the tape.", CallEdges::lengthAfterAppend);
        Sentences.refuses(2, STATE, "if the tape would become longer than 800 bytes; nothing is appended in that case",
                CallEdges::appendTooMuch);
        Sentences.returns(3, "the new length of the tape.", CallEdges::lengthAfterTruncate);
        Sentences.refuses(3, ARGUMENT, "if count is negative or greater than the length of the tape",
                CallEdges::truncateTooMuch);
    }

    private static int appended(LzwCodec codec) {
        return codec.append(0x61626161, 0x61616162, 0x62616161, 0x61616261, 0x62626261);
    }

    private static void orderOfBytes() {
        LzwCodec codec = new LzwCodec();
        appended(codec);
        codec.encodeTape();
        Check.same("letters", "abaaaaabbaaaaababbba", Check.encodedOf(codec));
        // The least and the greatest byte in each place; as all others, each is one byte.
        for (int place = 0; place < 20; place++) {
            for (int value : new int[] {0, 127, 128, 255}) {
                LzwCodec other = new LzwCodec();
                StringBuilder text = new StringBuilder("0 ".repeat(10));
                text.setCharAt(place, (char) value);
                Check.type(other, text.toString());
                Check.same("length", 20, other.truncate(0));
                Check.fails("byte " + place, Examples.ARGUMENT, other::decode);
                Check.same("byte " + place, place, other.errorPosition());
            }
        }
    }

    private static void lengthAfterAppend() {
        LzwCodec codec = new LzwCodec();
        for (int length = 20; length <= 800; length += 20) {
            Check.same("length", length, appended(codec));
        }
    }

    private static Scene withTape(int length) {
        return Scene.fresh().then(codec -> Check.type(codec, "ab".repeat(length / 2) + "a".repeat(length % 2)));
    }

    private static void appendTooMuch() {
        withTape(780).answers("780 and 20", 800, CallEdges::appended);
        withTape(779).answers("779 and 20", 799, CallEdges::appended);
        withTape(781).refuses("781 and 20", Examples.STATE, CallEdges::appended);
        withTape(799).refuses("799 and 20", Examples.STATE, CallEdges::appended);
        withTape(800).refuses("800 and 20", Examples.STATE, CallEdges::appended);
    }

    private static void lengthAfterTruncate() {
        Scene scene = withTape(40);
        for (int count = 0; count <= 40; count++) {
            int less = count;
            scene.answers("less " + count, 40 - count, codec -> codec.truncate(less));
        }
        LzwCodec codec = scene.make();
        codec.truncate(37);
        codec.encodeTape();
        Check.same("the end is removed", "aba", Check.encodedOf(codec));
        Check.same("of the longest", 0, withTape(800).make().truncate(800));
    }

    private static void truncateTooMuch() {
        for (int length : new int[] {0, 1, 20, 800}) {
            Scene scene = withTape(length);
            scene.answers("none", length, codec -> codec.truncate(0));
            scene.answers("all", 0, codec -> codec.truncate(length));
            scene.refuses("one more than all", Examples.ARGUMENT, codec -> codec.truncate(length + 1));
            scene.refuses("-1", Examples.ARGUMENT, codec -> codec.truncate(-1));
        }
        for (int count : Examples.farNumbers()) {
            Examples.busy().refuses(String.valueOf(count), Examples.ARGUMENT, codec -> codec.truncate(count));
        }
    }

    // ---- load and decode

    private static void texts() {
        Sentences.holds("Promise 4", "Parses the whole tape as a setup text", CallEdges::loadReadsAll);
        Sentences.holds("Promise 4", "The tape is empty afterwards, whether the text is correct or not.",
                () -> emptiesTape("lzw 4 4 reset 90;", "lzw 4 4 reset 90", LzwCodec::load));
        Sentences.holds("Promise 4", "Afterwards nothing can be undone, and saved states and the decoded text are "
                + "discarded.", CallEdges::loadForgets);
        Sentences.returns(4, "the number of encoded symbols.", CallEdges::loaded);
        Sentences.refuses(4, ARGUMENT, "if the text contains an error; everything else stays as it was, and errorPosition "
                + "tells where the error is", CallEdges::loadRefuses);
        Sentences.holds("Promise 5", "Parses the whole tape as a code list and decodes it with the present settings.",
                CallEdges::decodeReadsAll);
        Sentences.holds("Promise 5", "The tape is empty afterwards, whether the text is correct or not.",
                () -> emptiesTape("0 1 2", "0 1 2 9", LzwCodec::decode));
        Sentences.holds("Promise 5", "The decoded text replaces an earlier one.", CallEdges::decodedTextReplaced);
        Sentences.returns(5, "the number of decoded symbols.", CallEdges::decoded);
        Sentences.refuses(5, ARGUMENT, "if the text contains an error; the decoded text stays as it was, and errorPosition "
                + "tells where the error is", CallEdges::decodeRefuses);
        Sentences.returns(6, "the position; -1 if that call found no error or neither method has been called yet.",
                CallEdges::errorPosition);
    }

    private static void loadReadsAll() {
        Scene scene = Scene.fresh();
        scene.refusesText("lzw 4 4 reset 90; 0", 18, LzwCodec::load);
        String last = "lzw 4 4 reset 90;" + " ".repeat(782);
        Scene.fresh().then(codec -> Check.type(codec, last + " ")).takes("800 bytes", LzwCodec::load);
        scene.refusesText(last + "0", 799, LzwCodec::load);
    }

    private static void emptiesTape(String right, String wrong, Consumer<LzwCodec> call) {
        LzwCodec codec = new LzwCodec();
        Check.type(codec, right);
        call.accept(codec);
        Check.same("correct", 0, codec.truncate(0));
        Check.type(codec, wrong);
        Check.fails("not correct", Examples.ARGUMENT, () -> call.accept(codec));
        Check.same("not correct", 0, codec.truncate(0));
        Check.same("the next text is alone on it", 20, appended(codec));
    }

    private static Scene busyWithoutTape() {
        return Examples.busy().then(codec -> codec.truncate(3));
    }

    private static void loadForgets() {
        Scene before = busyWithoutTape().then(codec -> codec.save(0)).then(codec -> Check.type(codec, "lzw 3 4 watch 9;"));
        Scene scene = before.then(LzwCodec::load);
        scene.refuses("undo", Examples.STATE, LzwCodec::undo);
        scene.refuses("restore(0)", Examples.NO_SUCH, codec -> codec.restore(0));
        scene.refuses("restore(1)", Examples.NO_SUCH, codec -> codec.restore(1));
        scene.answers("decoded text", 0, LzwCodec::decodedCount);
        scene.answers("its longest run", 0, LzwCodec::longestDecodedRun);
        scene.refuses("its first symbol", Examples.INDEX, codec -> codec.decodedSymbol(0));
        Check.same("all of it", Scene.of("lzw 3 4 watch 9;").all(), scene.all());
        scene.then(LzwCodec::flush).answers("the first change then", 0, LzwCodec::undo);
    }

    private static void loaded() {
        String head = "lzw 2 8 reset 90;";
        for (int count : new int[] {1, 2, 399, 400}) {
            Scene scene = Scene.fresh().then(codec -> Check.type(codec, head + "symbols " + "a".repeat(count) + ";"));
            scene.answers("of one statement", count, LzwCodec::load);
        }
        busyWithoutTape().then(codec -> Check.type(codec, head)).answers("none", 0, LzwCodec::load);
        String two = head + "symbols ab;symbols abb;";
        busyWithoutTape().then(codec -> Check.type(codec, two)).answers("of two statements", 5, LzwCodec::load);
    }

    private static void loadRefuses() {
        Scene scene = busyWithoutTape();
        scene.refusesText("", 0, LzwCodec::load);
        scene.refusesText("lzw 2 8 freeze 1;symbols ab", 27, LzwCodec::load);
        scene.refusesText("lzw 2 8 freeze 1;symbols " + "a".repeat(401) + ";", 25, LzwCodec::load);
        scene.refusesText("lzw 2 8 freeze 1;symbols abab;;", 30, LzwCodec::load);
        Scene wrong = Examples.busy();
        wrong.then(codec -> codec.truncate(3)).refusesText("bcb", 0, LzwCodec::load);
    }

    private static void decodeReadsAll() {
        Scene scene = Scene.fresh();
        scene.refusesText("0 1 ;", 4, LzwCodec::decode);
        scene.refusesText(" ".repeat(799) + "9", 799, LzwCodec::decode);
        Scene.fresh().then(codec -> Check.type(codec, " ".repeat(799) + "3")).answers("the last byte", 1, LzwCodec::decode);
        // The first code that is added, and the last one, depend on the settings.
        Scene.of("lzw 2 3 reset 90;").then(codec -> Check.type(codec, "0 3")).answers("of 2", 3, LzwCodec::decode);
        Scene.of("lzw 3 3 reset 90;").then(codec -> Check.type(codec, "0 3")).answers("of 3", 1, LzwCodec::decode);
        Scene.of("lzw 2 3 reset 90;").refusesText("0 3 4 5 6 7 8", 12, LzwCodec::decode);
        Scene.of("lzw 2 4 reset 90;").then(codec -> Check.type(codec, "0 3 4 5 6 7 8"))
                .answers("of width 4", 28, LzwCodec::decode);
    }

    private static void decodedTextReplaced() {
        Scene scene = Scene.fresh().then(codec -> Check.decodeText(codec, "3 2 1 0"));
        Check.same("longer", "aaaaaa 6", scene.then(codec -> Check.decodeText(codec, "0 5 6")).decoded());
        Check.same("shorter", "b 1", scene.then(codec -> Check.decodeText(codec, "1")).decoded());
        Check.same("empty", " 0", scene.then(codec -> Check.decodeText(codec, "4")).decoded());
        scene.then(codec -> Check.decodeText(codec, "1"))
                .refuses("behind the shorter one", Examples.INDEX, codec -> codec.decodedSymbol(1));
    }

    private static void decoded() {
        Scene scene = Examples.busy().then(codec -> codec.truncate(3));
        scene.answers("none", 0, codec -> Check.decodeText(codec, ""));
        scene.answers("of a clear code", 0, codec -> Check.decodeText(codec, "3"));
        scene.answers("one", 1, codec -> Check.decodeText(codec, "2"));
        scene.answers("many", 400, codec -> Check.decodeText(codec, "1 ".repeat(400)));
    }

    private static void decodeRefuses() {
        Scene scene = busyWithoutTape();
        scene.refusesText("2 2 2 2 9", 8, LzwCodec::decode);
        scene.refusesText("4", 0, LzwCodec::decode);
        scene.refusesText("lzw", 0, LzwCodec::decode);
        scene.refusesText("1 ".repeat(399) + "04", 798, LzwCodec::decode);
    }

    private static void errorPosition() {
        LzwCodec codec = new LzwCodec();
        Check.same("neither was called", -1, codec.errorPosition());
        Check.fails("load", Examples.ARGUMENT, codec::load);
        Check.same("an error at 0", 0, codec.errorPosition());
        Check.decodeText(codec, "");
        Check.same("no error of decode", -1, codec.errorPosition());
        Check.type(codec, " ".repeat(800));
        Check.fails("load", Examples.ARGUMENT, codec::load);
        Check.same("the last one there is", 800, codec.errorPosition());
        Check.type(codec, "9");
        Check.fails("decode", Examples.ARGUMENT, codec::decode);
        Check.same("an error of decode after one of load", 0, codec.errorPosition());
        Check.type(codec, "lzw 4 4 reset 90;");
        codec.load();
        Check.same("no error of load", -1, codec.errorPosition());
    }

    // ---- encoding

    private static void encoding() {
        Sentences.returns(7, "the number of codes that are written by it.", CallEdges::encoded);
        Sentences.refuses(7, ARGUMENT, "if symbol is out of range", CallEdges::encodeOutOfRange);
        Sentences.refuses(7, STATE, "if 400 symbols were encoded since the latest start", CallEdges::encodeTooMany);
        Sentences.holds("Promise 8", "The tape is empty afterwards. This is one change.", CallEdges::tapeIsOneChange);
        Sentences.returns(8, "the number of codes that are written by it.", CallEdges::tapeEncoded);
        Sentences.refuses(8, ARGUMENT, "if the tape has a byte that is not a letter of the alphabet; the tape stays",
                CallEdges::tapeWithOtherBytes);
        Sentences.refuses(8, STATE, "if more than 400 symbols would have been encoded since the latest start; the tape "
                + "stays", CallEdges::tapeTooLong);
        Sentences.holds("Promise 9", "The dictionary is cleared by that, which counts like other clearings, and there is no "
                + "current phrase afterwards.", CallEdges::flushClears);
        Sentences.returns(9, "the number of codes that are written, 0 or 2.", CallEdges::flushed);
        Sentences.holds("Promise 10", "the dictionary has only its first codes, nothing has been encoded or written, and all "
                + "counters are 0.", CallEdges::restartForgets);
        Sentences.returns(10, "the number of written codes that were discarded.", CallEdges::discarded);
    }

    private static void encoded() {
        Scene full = Scene.of("lzw 2 3 reset 90;", "abaabbb");
        Scene.fresh().answers("the first symbol", 0, codec -> codec.encode(3));
        full.answers("a longer phrase", 0, codec -> codec.encode(1));
        Scene.fresh().then(codec -> codec.encode(3)).answers("a code", 1, codec -> codec.encode(3));
        full.then(codec -> codec.encode(0)).answers("a code and a clear code", 2, codec -> codec.encode(0));
    }

    private static void encodeOutOfRange() {
        Scene scene = Examples.busy();
        scene.takes("0", codec -> codec.encode(0));
        scene.takes("the last one", codec -> codec.encode(2));
        scene.refuses("-1", Examples.ARGUMENT, codec -> codec.encode(-1));
        scene.refuses("the first one beyond", Examples.ARGUMENT, codec -> codec.encode(3));
        scene.refuses("a letter", Examples.ARGUMENT, codec -> codec.encode('a'));
        for (int symbol : Examples.farNumbers()) {
            scene.refuses(String.valueOf(symbol), Examples.ARGUMENT, codec -> codec.encode(symbol));
        }
    }

    private static Scene with(int symbols) {
        return Scene.of("lzw 2 5 reset 90;", "aab".repeat(133).concat("a").substring(0, symbols));
    }

    private static void encodeTooMany() {
        Scene most = with(399).then(codec -> codec.encode(0));
        most.answers("symbol 400", 400, LzwCodec::encodedCount);
        most.refuses("symbol 401", Examples.STATE, codec -> codec.encode(0));
        most.then(LzwCodec::flush).refuses("after a flush", Examples.STATE, codec -> codec.encode(0));
        most.then(LzwCodec::undo).takes("after undo", codec -> codec.encode(0));
        most.then(LzwCodec::restart).takes("after a new start", codec -> codec.encode(0));
        most.then(LzwCodec::restart).then(LzwCodec::undo)
                .refuses("after a new start that is undone", Examples.STATE, codec -> codec.encode(0));
    }

    private static void tapeIsOneChange() {
        Scene scene = Scene.fresh().then(codec -> Check.encodeText(codec, "abcabcabc"));
        scene.answers("the tape", 0, codec -> codec.truncate(0));
        scene.answers("changes that are left", 0, LzwCodec::undo);
        Check.same("undone", Scene.fresh().state(), scene.then(LzwCodec::undo).state());
        scene.then(LzwCodec::undo).answers("the tape does not come back", 0, codec -> codec.truncate(0));
    }

    private static void tapeEncoded() {
        Scene scene = Scene.of("lzw 2 3 reset 90;");
        scene.answers("an empty tape", 0, LzwCodec::encodeTape);
        scene.answers("one letter", 0, codec -> Check.encodeText(codec, "a"));
        scene.answers("two letters", 1, codec -> Check.encodeText(codec, "ab"));
        scene.answers("with a clear code", 7, codec -> Check.encodeText(codec, "abaabbbaa"));
        Scene wide = Scene.of("lzw 26 8 freeze 90;");
        wide.answers("400 letters", 399, codec -> Check.encodeText(codec, Examples.differentPairs(26, 400)));
        Scene second = scene.then(codec -> Check.encodeText(codec, "abaabbbaa"));
        second.answers("only the new ones count", 1, codec -> Check.encodeText(codec, "b"));
    }

    private static void tapeWithOtherBytes() {
        Scene scene = Examples.busy().then(codec -> codec.truncate(3));
        scene.takes("the first and the last letter", codec -> Check.encodeText(codec, "ac"));
        for (String letters : new String[] {"d", "`", "acd", "dac", "a`c", "ac ", "a;c", "A", "0", "a\n"}) {
            Scene typed = scene.then(codec -> Check.type(codec, letters));
            typed.refuses("\"" + letters + "\"", Examples.ARGUMENT, LzwCodec::encodeTape);
            typed.trying(LzwCodec::encodeTape).answers("the tape", letters.length(), codec -> codec.truncate(0));
        }
        for (int i = 0; i < 256; i++) {
            char sign = (char) i;
            Scene typed = Scene.fresh().then(codec -> Check.type(codec, "a" + sign));
            if (sign >= 'a' && sign <= 'd') {
                typed.takes("byte " + i, LzwCodec::encodeTape);
            } else {
                LzwCodec codec = typed.make();
                Check.fails("byte " + i, Examples.ARGUMENT, codec::encodeTape);
                Check.same("byte " + i + ", the tape", 2, codec.truncate(0));
            }
        }
    }

    private static void tapeTooLong() {
        for (int before : new int[] {0, 1, 399, 400}) {
            Scene scene = with(before);
            int room = 400 - before;
            scene.takes("all that there is room for", codec -> Check.encodeText(codec, "b".repeat(room)));
            Scene full = scene.then(codec -> Check.encodeText(codec, "b".repeat(room)));
            full.answers("symbols then", 400, LzwCodec::encodedCount);
            Scene typed = scene.then(codec -> Check.type(codec, "b".repeat(room + 1)));
            typed.refuses("one more", Examples.STATE, LzwCodec::encodeTape);
            typed.trying(LzwCodec::encodeTape).answers("the tape", room + 1, codec -> codec.truncate(0));
        }
        Scene longest = Scene.fresh().then(codec -> Check.type(codec, "b".repeat(800)));
        longest.refuses("800 letters", Examples.STATE, LzwCodec::encodeTape);
        Scene restarted = with(400).then(LzwCodec::restart);
        restarted.takes("after a new start", codec -> Check.encodeText(codec, "b".repeat(400)));
    }

    private static void flushClears() {
        Scene scene = Scene.of("lzw 2 3 freeze 90;", "abaabbba").then(LzwCodec::flush);
        scene.answers("codes in the dictionary", 3, LzwCodec::codeCount);
        scene.answers("clear codes", 1, LzwCodec::clearCount);
        scene.answers("codes since", 0, LzwCodec::codesSinceClear);
        scene.answers("symbols since", 0, LzwCodec::symbolsSinceClear);
        scene.answers("bits since", 0, LzwCodec::bitsSinceClear);
        scene.answers("uses of the clear code", 1, codec -> codec.usesOf(2));
        Check.same("no phrase", false, scene.make().hasPhrase());
        Check.same("written", "0/2 1/2 0/3 3/3 1/3 4/3 2/3", scene.written());
        Check.same("encoded", "abaabbba", scene.encoded());
    }

    private static void flushed() {
        Scene.fresh().answers("without a phrase", 0, LzwCodec::flush);
        Check.same("nothing is written then", "", Scene.fresh().then(LzwCodec::flush).written());
        Scene one = Scene.of("lzw 2 3 freeze 90;", "a");
        one.answers("with a phrase of one symbol", 2, LzwCodec::flush);
        one.then(LzwCodec::flush).answers("a second time", 0, LzwCodec::flush);
        Check.same("a second time", "0/2 2/2", one.then(LzwCodec::flush).then(LzwCodec::flush).written());
        with(400).answers("with 400 symbols", 2, LzwCodec::flush);
        Scene.fresh().then(LzwCodec::restart).answers("after a new start", 0, LzwCodec::flush);
    }

    private static void restartForgets() {
        Scene scene = Scene.of("lzw 3 4 watch 120;", "abcabcaabbcc").then(LzwCodec::flush)
                .then(codec -> Check.encodeText(codec, "abc"));
        Check.same("the state", Scene.of("lzw 3 4 watch 120;").state(), scene.then(LzwCodec::restart).state());
        Scene changed = scene.then(codec -> codec.setLimit(200)).then(codec -> codec.setPolicy(LzwCodec.FREEZE));
        Check.same("the settings stay", Scene.of("lzw 3 4 freeze 200;").state(), changed.then(LzwCodec::restart).state());
    }

    private static void discarded() {
        Scene.fresh().answers("of nothing", 0, LzwCodec::restart);
        Scene.fresh().then(codec -> codec.encode(0)).answers("of a phrase alone", 0, LzwCodec::restart);
        Scene.of("lzw 2 3 freeze 90;", "ab").answers("of one code", 1, LzwCodec::restart);
        Scene.of("lzw 2 3 freeze 90;", "ab").then(LzwCodec::flush).answers("clear codes too", 3, LzwCodec::restart);
        Scene.of("lzw 2 3 freeze 90;", "ab").then(LzwCodec::restart).answers("a second time", 0, LzwCodec::restart);
    }

    // ---- the policy and the limit

    private static void settings() {
        Sentences.returns(11, "the previous policy.", CallEdges::previousPolicy);
        Sentences.refuses(11, ARGUMENT, "if policy is none of these", CallEdges::wrongPolicy);
        Sentences.returns(12, "the previous limit.", CallEdges::previousLimit);
        Sentences.refuses(12, ARGUMENT, "if percent is not 1 to 200", CallEdges::wrongLimit);
    }

    private static void previousPolicy() {
        for (int before = 0; before <= 2; before++) {
            int previous = before;
            Scene scene = Scene.fresh().then(codec -> codec.setPolicy(previous));
            for (int policy = 0; policy <= 2; policy++) {
                int next = policy;
                scene.answers("before " + next, previous, codec -> codec.setPolicy(next));
                scene.then(codec -> codec.setPolicy(next)).answers("now", next, LzwCodec::policy);
            }
        }
    }

    private static void wrongPolicy() {
        Scene scene = Examples.busy();
        scene.takes("the first", codec -> codec.setPolicy(0));
        scene.takes("the last", codec -> codec.setPolicy(2));
        scene.refuses("-1", Examples.ARGUMENT, codec -> codec.setPolicy(-1));
        scene.refuses("3", Examples.ARGUMENT, codec -> codec.setPolicy(3));
        for (int policy : Examples.farNumbers()) {
            scene.refuses(String.valueOf(policy), Examples.ARGUMENT, codec -> codec.setPolicy(policy));
        }
    }

    private static void previousLimit() {
        int[] limits = {1, 200, 200, 1, 100};
        LzwCodec codec = new LzwCodec();
        int previous = 90;
        for (int percent : limits) {
            Check.same("before " + percent, previous, codec.setLimit(percent));
            Check.same("now", percent, codec.limit());
            previous = percent;
        }
    }

    private static void wrongLimit() {
        Scene scene = Examples.busy();
        scene.takes("1", codec -> codec.setLimit(1));
        scene.takes("200", codec -> codec.setLimit(200));
        scene.refuses("0", Examples.ARGUMENT, codec -> codec.setLimit(0));
        scene.refuses("-1", Examples.ARGUMENT, codec -> codec.setLimit(-1));
        scene.refuses("201", Examples.ARGUMENT, codec -> codec.setLimit(201));
        for (int percent : Examples.farNumbers()) {
            scene.refuses(String.valueOf(percent), Examples.ARGUMENT, codec -> codec.setLimit(percent));
        }
    }

    // ---- saved states and undo

    private static void states() {
        Sentences.holds("Promise 13", "Saves the state in a slot, in place of an earlier one.", CallEdges::savedAgain);
        Sentences.refuses(13, ARGUMENT, "if slot is not 0 or 1", () -> wrongSlots((codec, slot) -> codec.save(slot)));
        Sentences.holds("Promise 14", "Makes the state as it was when it was saved in a slot. The slot keeps it.",
                CallEdges::slotKeeps);
        Sentences.returns(14, "the number of encoded symbols afterwards.", CallEdges::restored);
        Sentences.refuses(14, ARGUMENT, "if slot is not 0 or 1", () -> wrongSlots((codec, slot) -> codec.restore(slot)));
        Sentences.refuses(14, NO_SUCH, "if nothing was saved in the slot", CallEdges::emptySlots);
        Sentences.holds("Promise 15", "Undoes the most recent change that has not been undone.", CallEdges::undone);
        Sentences.returns(15, "the number of changes that can still be undone.", CallEdges::changesLeft);
        Sentences.refuses(15, STATE, "if there is no change to undo", CallEdges::nothingToUndo);
    }

    private interface SlotCall {
        void run(LzwCodec codec, int slot);
    }

    private static void wrongSlots(SlotCall call) {
        Scene scene = Examples.busy().then(codec -> codec.save(0));
        scene.takes("0", codec -> call.run(codec, 0));
        scene.takes("1", codec -> call.run(codec, 1));
        scene.refuses("-1", Examples.ARGUMENT, codec -> call.run(codec, -1));
        scene.refuses("2", Examples.ARGUMENT, codec -> call.run(codec, 2));
        for (int slot : Examples.farNumbers()) {
            scene.refuses(String.valueOf(slot), Examples.ARGUMENT, codec -> call.run(codec, slot));
        }
    }

    private static void savedAgain() {
        Scene scene = Scene.of("lzw 3 4 watch 120;", "abcabc").then(codec -> codec.save(0)).then(codec -> codec.save(1));
        Scene later = scene.then(codec -> Check.encodeText(codec, "ccc")).then(codec -> codec.save(1));
        later.answers("the slot that was saved again", 9, codec -> codec.restore(1));
        later.answers("the other slot", 6, codec -> codec.restore(0));
        Check.same("no change", Scene.of("lzw 3 4 watch 120;", "abcabc").state(), scene.state());
        scene.answers("no change", 0, LzwCodec::undo);
    }

    private static void slotKeeps() {
        for (int i = 0; i < 2; i++) {
            int slot = i;
            Scene saved = Scene.of("lzw 3 4 watch 120;", "abcabcbb").then(codec -> codec.save(slot));
            Scene later = saved.then(codec -> codec.setLimit(7)).then(codec -> Check.encodeText(codec, "cacb"))
                    .then(LzwCodec::flush).then(codec -> codec.setPolicy(LzwCodec.FREEZE));
            Scene restored = later.then(codec -> codec.restore(slot));
            Check.same("restored", saved.state(), restored.state());
            Scene again = restored.then(LzwCodec::restart).then(codec -> codec.restore(slot));
            Check.same("restored again", saved.state(), again.state());
            Scene on = again.then(codec -> Check.encodeText(codec, "bca"));
            Check.same("encoding goes on from it", saved.then(codec -> Check.encodeText(codec, "bca")).state(), on.state());
            Check.same("and leaves the slot", saved.state(), on.then(codec -> codec.restore(slot)).state());
        }
    }

    private static void restored() {
        for (int symbols : new int[] {0, 1, 400}) {
            Scene scene = with(symbols).then(codec -> codec.save(1)).then(LzwCodec::restart);
            scene.answers("symbols", symbols, codec -> codec.restore(1));
        }
    }

    private static void emptySlots() {
        for (int i = 0; i < 2; i++) {
            int slot = i;
            Scene.fresh().refuses("nothing saved", Examples.NO_SUCH, codec -> codec.restore(slot));
            Scene other = Scene.fresh().then(codec -> codec.save(1 - slot));
            other.refuses("only the other slot", Examples.NO_SUCH, codec -> codec.restore(slot));
            other.answers("the other slot", 0, codec -> codec.restore(1 - slot));
            Scene.fresh().then(codec -> codec.save(slot)).answers("the slot", 0, codec -> codec.restore(slot));
        }
        Examples.busy().refuses("slot 0", Examples.NO_SUCH, codec -> codec.restore(0));
        Examples.busy().answers("slot 1", 12, codec -> codec.restore(1));
    }

    private static void undone() {
        Scene scene = Scene.fresh().then(codec -> codec.setLimit(1)).then(codec -> codec.setLimit(2))
                .then(codec -> codec.setLimit(3));
        scene.then(LzwCodec::undo).answers("the latest", 2, LzwCodec::limit);
        scene.then(LzwCodec::undo).then(LzwCodec::undo).answers("the one before", 1, LzwCodec::limit);
        Scene between = scene.then(LzwCodec::undo).then(codec -> codec.setLimit(4));
        between.then(LzwCodec::undo).answers("a new one", 2, LzwCodec::limit);
        between.then(LzwCodec::undo).then(LzwCodec::undo).answers("what is undone counts no more", 1, LzwCodec::limit);
    }

    private static Scene changed(int times) {
        return Scene.fresh().then(codec -> {
            for (int percent = 1; percent <= times; percent++) {
                codec.setLimit(percent);
            }
        });
    }

    private static void changesLeft() {
        for (int times : new int[] {1, 2, 7, 8, 9, 10, 16, 17, 100}) {
            LzwCodec codec = changed(times).make();
            for (int left = Math.min(times, 8) - 1; left >= 0; left--) {
                Check.same("of " + times, left, codec.undo());
            }
        }
    }

    private static void nothingToUndo() {
        Scene.fresh().refuses("at first", Examples.STATE, LzwCodec::undo);
        Scene.of("lzw 2 3 reset 90;symbols ab;").refuses("after load", Examples.STATE, LzwCodec::undo);
        for (int times : new int[] {1, 7, 8, 9, 17}) {
            Scene scene = changed(times);
            for (int i = 0; i < Math.min(times, 8); i++) {
                scene = scene.then(LzwCodec::undo);
            }
            scene.refuses("after " + times + " changes", Examples.STATE, LzwCodec::undo);
            scene.then(LzwCodec::flush).answers("after one more", 0, LzwCodec::undo);
        }
    }
}

/** Promises 55 to 61: the decoded text, what a decoder restores, and the setup text. */
final class DecodedEdges {
    private static final String INDEX = "IndexOutOfBoundsException";

    private DecodedEdges() {
    }

    static void all() {
        Sentences.returns(55, "the number of symbols; 0 before the first successful call of decode.",
                DecodedEdges::decodedCount);
        Sentences.returns(56, "the symbol.", DecodedEdges::decodedSymbol);
        Sentences.refuses(56, INDEX, "if there is no such symbol", DecodedEdges::noDecodedSymbol);
        Sentences.returns(57, "the number of symbols; 0 if the decoded text is empty.", DecodedEdges::longestRun);
        Sentences.returns(58, "the number of symbols that a decoder gets from all written codes.",
                DecodedEdges::restoredCount);
        Sentences.returns(59, "true if the decoded symbols are the first encoded symbols in their order (this is always "
                + "so).", DecodedEdges::isRestored);
        Sentences.returns(60, "the number of bytes.", DecodedEdges::setupLength);
        Sentences.returns(61, "the byte.", DecodedEdges::setupByte);
        Sentences.refuses(61, INDEX, "if the text has no such byte", DecodedEdges::noSetupByte);
    }

    private static Scene decoded(String codes) {
        return Scene.of("lzw 2 8 reset 90;").then(codec -> Check.decodeText(codec, codes));
    }

    private static void decodedCount() {
        Scene.fresh().answers("at first", 0, LzwCodec::decodedCount);
        Scene failed = Scene.fresh().then(codec -> Check.type(codec, "0 1 9")).trying(LzwCodec::decode);
        failed.answers("after a call that failed", 0, LzwCodec::decodedCount);
        decoded("").answers("of an empty list", 0, LzwCodec::decodedCount);
        decoded("0").answers("one", 1, LzwCodec::decodedCount);
        decoded("0 ".repeat(400)).answers("400", 400, LzwCodec::decodedCount);
        Scene after = decoded("0 3").then(codec -> Check.type(codec, "9")).trying(LzwCodec::decode);
        after.answers("after one that failed", 3, LzwCodec::decodedCount);
        decoded("0 3").then(codec -> Check.type(codec, "lzw 2 3 reset 9;")).then(LzwCodec::load)
                .answers("after load", 0, LzwCodec::decodedCount);
    }

    private static void decodedSymbol() {
        Scene scene = decoded("1 0 3");
        int[] due = {1, 0, 1, 0};
        for (int i = 0; i < due.length; i++) {
            int index = i;
            scene.answers("symbol " + i, due[i], codec -> codec.decodedSymbol(index));
        }
        Scene most = decoded("0 ".repeat(399) + "1");
        most.answers("symbol 398", 0, codec -> codec.decodedSymbol(398));
        most.answers("symbol 399", 1, codec -> codec.decodedSymbol(399));
    }

    private static void noDecodedSymbol() {
        Scene.fresh().refuses("the first of none", Examples.INDEX, codec -> codec.decodedSymbol(0));
        decoded("2").refuses("the first of an empty text", Examples.INDEX, codec -> codec.decodedSymbol(0));
        Scene scene = Examples.busy();
        int count = scene.ask(LzwCodec::decodedCount);
        scene.takes("the last", codec -> codec.decodedSymbol(count - 1));
        scene.refuses("behind the last", Examples.INDEX, codec -> codec.decodedSymbol(count));
        scene.refuses("before the first", Examples.INDEX, codec -> codec.decodedSymbol(-1));
        for (int index : Examples.farNumbers()) {
            scene.refuses(String.valueOf(index), Examples.INDEX, codec -> codec.decodedSymbol(index));
        }
        decoded("0 ".repeat(400)).refuses("symbol 400", Examples.INDEX, codec -> codec.decodedSymbol(400));
        decoded("0 3 4").then(codec -> Check.decodeText(codec, "1"))
                .refuses("of the text before", Examples.INDEX, codec -> codec.decodedSymbol(1));
    }

    private static void run(String codes, int due) {
        decoded(codes).answers("of \"" + codes + "\"", due, LzwCodec::longestDecodedRun);
    }

    private static void longestRun() {
        Scene.fresh().answers("at first", 0, LzwCodec::longestDecodedRun);
        run("", 0);
        run("2 2", 0);
        run("0", 1);
        run("1", 1);
        run("0 1", 1);
        run("0 0", 2);
        run("0 0 1", 2);
        run("1 0 0", 2);
        run("1 0 0 1", 2);
        run("0 0 1 1 1 0 0", 3);
        run("0 0 0 1 1", 3);
        run("0 1 0 1 0 1", 1);
        // A run goes on over the codes, and over a clear code.
        run("0 3 2 0 3", 6);
        run("1 ".repeat(400), 400);
        run("0 " + "1 ".repeat(399), 399);
        run("1 ".repeat(399) + "0", 399);
    }

    private static void restores(String what, int due, Scene scene) {
        scene.answers(what, due, LzwCodec::restoredCount);
        Check.same(what + ", restored", true, scene.make().isRestored());
    }

    private static void restoredCount() {
        restores("of nothing", 0, Scene.fresh());
        restores("of a phrase alone", 0, Scene.fresh().then(codec -> codec.encode(0)));
        restores("of one code", 1, Scene.of("lzw 2 3 reset 90;", "ab"));
        restores("of an idle flush", 0, Scene.fresh().then(LzwCodec::flush));
        restores("with clear codes", 8, Scene.of("lzw 2 3 reset 90;", "abaabbbaa"));
        restores("of 400 symbols", 400, Scene.of("lzw 2 3 reset 90;", "ab".repeat(200)).then(LzwCodec::flush));
        restores("begun anew", 0, Scene.of("lzw 2 3 reset 90;", "abaabbbaa").then(LzwCodec::restart));
        Scene same = Scene.of("lzw 2 8 freeze 90;", "a".repeat(400));
        restores("all but the current phrase", 378, same);
        restores("all", 400, same.then(LzwCodec::flush));
        Scene kept = decoded("0 3 4").then(codec -> Check.encodeText(codec, "bb"));
        Check.same("the decoded text stays", kept.decoded(), kept.then(LzwCodec::restoredCount).decoded());
    }

    private static void isRestored() {
        for (String policy : new String[] {"freeze", "reset", "watch"}) {
            for (int size = 2; size <= 6; size++) {
                for (int width = 3; width <= 5; width++) {
                    Scene scene = Scene.of("lzw " + size + " " + width + " " + policy + " 120;", "ab".repeat(30)
                            + "aab".repeat(30) + "b".repeat(50) + Examples.differentPairs(size, size * size));
                    Check.same("codes", true, scene.make().isRestored());
                    Check.same("codes, flushed", true, scene.then(LzwCodec::flush).make().isRestored());
                }
            }
        }
        Scene flushed = Scene.of("lzw 2 3 freeze 90;").then(codec -> {
            for (int i = 0; i < 200; i++) {
                codec.encode(i % 3 % 2);
                codec.flush();
            }
        });
        Check.same("a flush behind each symbol", true, flushed.make().isRestored());
        Scene changed = Scene.of("lzw 2 3 freeze 90;", "abaabbbaabb").then(codec -> codec.setPolicy(LzwCodec.RESET))
                .then(codec -> Check.encodeText(codec, "abbaaab")).then(codec -> codec.setPolicy(LzwCodec.FREEZE));
        Check.same("with another policy", true, changed.make().isRestored());
    }

    private static void setupLength() {
        Scene.fresh().answers("at first", 17, LzwCodec::setupLength);
        Scene.fresh().then(codec -> codec.encode(0)).answers("one symbol", 17 + 8 + 1 + 1, LzwCodec::setupLength);
        Scene.of("lzw 2 3 reset 1;").answers("the shortest", 16, LzwCodec::setupLength);
        Scene longest = Scene.of("lzw 26 8 freeze 200;", Examples.differentPairs(26, 400));
        longest.answers("the longest", 20 + 8 + 400 + 1, LzwCodec::setupLength);
        longest.then(LzwCodec::restart).answers("begun anew", 20, LzwCodec::setupLength);
    }

    private static void setupByte() {
        Check.same("at first", "lzw 4 4 reset 90;", Scene.fresh().setup());
        String letters = Examples.differentPairs(26, 400);
        String longest = "lzw 26 8 freeze 200;symbols " + letters + ";";
        Check.same("the longest", longest, Scene.of("lzw 26 8 freeze 200;", letters).setup());
        Scene again = Scene.of(longest);
        Check.same("loaded again", Scene.of("lzw 26 8 freeze 200;", letters).state(), again.state());
        again.answers("the first byte", 'l', codec -> codec.setupByte(0));
        again.answers("the last byte", ';', codec -> codec.setupByte(428));
    }

    private static void noSetupByte() {
        for (Scene scene : new Scene[] {Scene.fresh(), Examples.busy(), Scene.of("lzw 2 3 reset 1;")}) {
            int length = scene.ask(LzwCodec::setupLength);
            scene.takes("the last byte", codec -> codec.setupByte(length - 1));
            scene.refuses("behind the last byte", Examples.INDEX, codec -> codec.setupByte(length));
            scene.refuses("before the first byte", Examples.INDEX, codec -> codec.setupByte(-1));
        }
        for (int index : Examples.farNumbers()) {
            Examples.busy().refuses(String.valueOf(index), Examples.INDEX, codec -> codec.setupByte(index));
        }
        Scene longest = Scene.of("lzw 26 8 freeze 200;", Examples.differentPairs(26, 400));
        LzwCodec codec = longest.make();
        Check.fails("behind the longest", Examples.INDEX, () -> codec.setupByte(429));
        codec.restart();
        Check.fails("of the text before", Examples.INDEX, () -> codec.setupByte(20));
    }
}

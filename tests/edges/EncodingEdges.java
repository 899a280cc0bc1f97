/** The sentences of "Encoding". */
final class EncodingEdges {
    private static final String SECTION = "Encoding";
    // Seven symbols of which six are written as 0 1 0 3 1 fill this dictionary: 3 "ab", 4 "ba", 5 "aa", 6 "abb", 7 "bb".
    private static final String SEVEN = "abaabbb";

    private EncodingEdges() {
    }

    static void all() {
        Sentences.holds(SECTION, "The encoder has a current phrase or none. At first there is none. To encode a symbol, "
                + "it does the following.", EncodingEdges::noPhraseAtFirst);
        Sentences.holds(SECTION, "If there is no current phrase, the phrase of the symbol becomes the current phrase, and "
                + "nothing else happens.", EncodingEdges::firstSymbol);
        Sentences.holds(SECTION, "Otherwise, if the dictionary has the current phrase followed by the symbol, this phrase "
                + "becomes the current phrase, and nothing else happens.", EncodingEdges::knownPhrase);
        Sentences.holds(SECTION, "Otherwise the code of the current phrase is written.", EncodingEdges::unknownPhrase);
        Sentences.holds(SECTION, "Then the policy is asked for a clearing: it may only be asked for if the dictionary is "
                + "full.", EncodingEdges::onlyIfFull);
        Sentences.holds(SECTION, "RESET asks for it whenever the dictionary is full.", EncodingEdges::reset);
        Sentences.holds(SECTION, "is greater than the limit.", EncodingEdges::watchGreater);
        Sentences.holds(SECTION, "the code that has just been written included", EncodingEdges::watchIncludes);
        Sentences.holds(SECTION, "the size of all codes since the latest clear code (or start)", EncodingEdges::watchSince);
        Sentences.holds(SECTION, "in percent of the plain size (see percentSinceClear)", EncodingEdges::watchRounds);
        Sentences.holds(SECTION, "FREEZE never asks for it.", EncodingEdges::freeze);
        Sentences.holds(SECTION, "If a clearing is asked for, the clear code is written, and then the dictionary is "
                + "cleared.", EncodingEdges::clearing);
        Sentences.holds(SECTION, "Otherwise, if the dictionary is not full, the current phrase followed by the symbol is "
                + "added to it as the next code.", EncodingEdges::adding);
        Sentences.holds(SECTION, "In both cases the phrase of the symbol becomes the current phrase.",
                EncodingEdges::newPhrase);
    }

    private static Scene small(String policy, int limit, String letters) {
        return Scene.of("lzw 2 3 " + policy + " " + limit + ";", letters);
    }

    private static void noPhraseAtFirst() {
        Check.same("at first", false, new LzwCodec().hasPhrase());
        LzwCodec codec = new LzwCodec();
        codec.encode(0);
        Check.same("then", true, codec.hasPhrase());
    }

    private static void becomesFirst(Scene scene) {
        String written = scene.written();
        int codes = scene.ask(LzwCodec::codeCount);
        scene.answers("codes", 0, codec -> codec.encode(1));
        Scene after = scene.then(codec -> codec.encode(1));
        Check.same("phrase", 1, after.ask(LzwCodec::currentPhrase));
        Check.same("written", written, after.written());
        Check.same("dictionary", codes, after.ask(LzwCodec::codeCount));
    }

    private static void firstSymbol() {
        becomesFirst(Scene.fresh());
        becomesFirst(small("reset", 90, "abaabb").then(LzwCodec::flush));
        becomesFirst(small("reset", 90, "abaabbba").then(LzwCodec::flush));
        becomesFirst(small("reset", 90, "abaabbba").then(LzwCodec::restart));
    }

    private static void knownPhrase() {
        for (String policy : new String[] {"freeze", "reset", "watch"}) {
            Scene scene = small(policy, 1, SEVEN);
            String written = scene.written();
            Check.same("full", true, scene.make().isFull());
            scene.answers("codes", 0, codec -> codec.encode(1));
            Scene after = scene.then(codec -> codec.encode(1));
            Check.same("phrase", "bb", after.phrase(after.ask(LzwCodec::currentPhrase)));
            Check.same("written", written, after.written());
            Check.same("dictionary", 8, after.ask(LzwCodec::codeCount));
        }
        // The phrase of the code that was added as the latest one is known at once.
        LzwCodec codec = small("reset", 90, "aaab").make();
        Check.same("the newest phrase", "0/2 3/2", Check.writtenOf(codec));
    }

    private static void unknownPhrase() {
        LzwCodec codec = small("reset", 90, "a").make();
        Check.same("after one symbol", 1, codec.encode(1));
        Check.same("the phrase before", 0, codec.writtenCode(0));
        LzwCodec longer = small("reset", 90, "abab").make();
        Check.same("after a phrase of two", 1, longer.encode(1));
        Check.same("a phrase of two", 3, longer.writtenCode(2));
        Check.same("a phrase of two", 4, longer.symbolsSinceClear());
    }

    private static void onlyIfFull() {
        for (String policy : new String[] {"reset", "watch"}) {
            Scene scene = small(policy, 1, SEVEN.substring(0, 6));
            Check.same("one code less", 7, scene.ask(LzwCodec::codeCount));
            scene.answers("no clearing to come", 0, codec -> codec.clearsIfEncoded(1));
            scene.answers("no clearing", 1, codec -> codec.encode(1));
            Scene full = scene.then(codec -> codec.encode(1));
            Check.same("it is full now", 8, full.ask(LzwCodec::codeCount));
            Check.same("no clearing by the code that fills it", 0, full.ask(LzwCodec::clearCount));
            full.answers("the next code", 2, codec -> codec.encode(0) + codec.encode(0));
        }
    }

    private static void reset() {
        for (int limit : new int[] {1, 200}) {
            Scene scene = small("reset", limit, SEVEN + "a");
            for (int symbol = 0; symbol < 2; symbol++) {
                int next = symbol;
                scene.answers("codes", 2, codec -> codec.encode(next));
                scene.answers("clear codes", 1, codec -> codec.clearsIfEncoded(next));
            }
        }
    }

    private static void watchGreater() {
        // With the code of "ba" there are 16 bits for 8 symbols of 1 bit.
        small("watch", 200, SEVEN + "a").answers("200 is not greater than 200", 1, codec -> codec.encode(0));
        Scene below = small("freeze", 199, SEVEN + "a").then(codec -> codec.setPolicy(LzwCodec.WATCH));
        below.answers("200 is greater than 199", 2, codec -> codec.encode(0));
        below.then(codec -> codec.setLimit(200)).answers("200 is not greater than 200", 1, codec -> codec.encode(0));
        below.then(codec -> codec.setLimit(1)).answers("200 is greater than 1", 2, codec -> codec.encode(0));
    }

    private static void watchIncludes() {
        // Without the code of "ba" it would be 13 bits for 6 symbols, 216 percent.
        Scene scene = small("watch", 200, SEVEN + "a");
        Check.same("before", 216, scene.ask(LzwCodec::percentSinceClear));
        scene.answers("codes", 1, codec -> codec.encode(0));
        // 11 bits for 10 symbols of 2 bits; the code of the 11th makes it 14 bits for 11, 63.6 percent.
        Scene better = Scene.of("lzw 3 3 watch 200;", Examples.repeated('a', 11));
        Check.same("full", true, better.make().isFull());
        Check.same("before", 55, better.ask(LzwCodec::percentSinceClear));
        better.then(codec -> codec.setLimit(63)).answers("63 is not greater than 63", 1, codec -> codec.encode(1));
        better.then(codec -> codec.setLimit(62)).answers("63 is greater than 62", 2, codec -> codec.encode(1));
    }

    private static void watchSince() {
        Scene second = small("reset", 200, SEVEN + "aa").then(codec -> codec.setPolicy(LzwCodec.WATCH));
        Check.same("cleared", 1, second.ask(LzwCodec::clearCount));
        Scene full = second.then(codec -> Check.encodeText(codec, SEVEN.substring(1) + "a"));
        Check.same("full again", true, full.make().isFull());
        Check.same("as at first", 216, full.ask(LzwCodec::percentSinceClear));
        full.then(codec -> codec.setLimit(200)).answers("200 is not greater than 200", 1, codec -> codec.encode(0));
        full.then(codec -> codec.setLimit(199)).answers("200 is greater than 199", 2, codec -> codec.encode(0));
        Scene restarted = second.then(LzwCodec::restart).then(codec -> Check.encodeText(codec, SEVEN + "a"));
        restarted.then(codec -> codec.setLimit(200)).answers("since the start", 1, codec -> codec.encode(0));
        restarted.then(codec -> codec.setLimit(199)).answers("since the start", 2, codec -> codec.encode(0));
        Scene flushed = second.then(LzwCodec::flush).then(codec -> Check.encodeText(codec, SEVEN + "a"));
        flushed.then(codec -> codec.setLimit(200)).answers("since the flush", 1, codec -> codec.encode(0));
        flushed.then(codec -> codec.setLimit(199)).answers("since the flush", 2, codec -> codec.encode(0));
    }

    private static void watchRounds() {
        // 19 bits for 11 symbols are 172.7 percent.
        Scene scene = small("freeze", 90, SEVEN + "aabb").then(codec -> codec.setPolicy(LzwCodec.WATCH));
        scene.then(codec -> codec.setLimit(172)).answers("172.7 counts 172", 1, codec -> codec.encode(0));
        scene.then(codec -> codec.setLimit(171)).answers("172.7 counts 172", 2, codec -> codec.encode(0));
    }

    private static void freeze() {
        Scene scene = small("freeze", 1, SEVEN + "a");
        scene.answers("codes", 1, codec -> codec.encode(0));
        Scene later = scene.then(codec -> Check.encodeText(codec, "aabbaba".repeat(20)));
        Check.same("clear codes", 0, later.ask(LzwCodec::clearCount));
        Check.same("uses of the clear code", 0, later.ask(codec -> codec.usesOf(2)));
        Check.same("dictionary", 8, later.ask(LzwCodec::codeCount));
    }

    private static void clearing() {
        for (String policy : new String[] {"reset", "watch"}) {
            Scene scene = small(policy, 1, SEVEN + "aa");
            Check.same("written, the clear code at the old width", "0/2 1/2 0/3 3/3 1/3 4/3 2/3", scene.written());
            Check.same("dictionary", 3, scene.ask(LzwCodec::codeCount));
            Check.same("width", 2, scene.ask(LzwCodec::codeWidth));
        }
    }

    private static void adding() {
        Scene last = small("freeze", 1, SEVEN.substring(0, 6));
        int next = last.ask(LzwCodec::codeCount);
        Check.same("the next code", 7, next);
        Check.same("the last place is used", "bb", last.then(codec -> codec.encode(1)).phrase(next));
        for (String policy : new String[] {"freeze", "watch"}) {
            Scene full = small(policy, 200, SEVEN + "aa");
            Check.same("full", 8, full.ask(LzwCodec::codeCount));
            Check.same("not cleared", 0, full.ask(LzwCodec::clearCount));
            full.refuses("nothing is added to a full one", Examples.NO_SUCH, codec -> codec.extensionOf(4, 0));
            full.refuses("nothing is added behind it", Examples.INDEX, codec -> codec.phraseLength(8));
        }
        Scene cleared = small("reset", 200, SEVEN + "aa");
        Check.same("nothing is added by a clearing", 3, cleared.ask(LzwCodec::codeCount));
        cleared.refuses("nothing is added by a clearing", Examples.NO_SUCH, codec -> codec.extensionOf(0, 0));
    }

    private static void newPhrase() {
        for (int symbol = 0; symbol < 2; symbol++) {
            int next = symbol;
            Scene cleared = small("reset", 90, SEVEN + "a").then(codec -> codec.encode(next));
            Check.same("after a clearing", next, cleared.ask(LzwCodec::currentPhrase));
            Scene kept = small("freeze", 90, SEVEN + "a").then(codec -> codec.encode(next));
            Check.same("in a full dictionary", next, kept.ask(LzwCodec::currentPhrase));
        }
        Check.same("after adding", 1, small("freeze", 90, "ab").ask(LzwCodec::currentPhrase));
    }
}

/** The sentences of "Decoding". With an alphabet of 2 the clear code is 2 and the first code that is added is 3. */
final class DecodingEdges {
    private static final String SECTION = "Decoding";
    // a, b, a, aa, b, b: these add 3 "ab", 4 "ba", 5 "aa", 6 "aab", 7 "bb", with which the dictionary is full.
    private static final String FILLING = "0 1 0 5 1 1";

    private DecodingEdges() {
    }

    static void all() {
        Sentences.holds(SECTION, "A decoder starts with the first codes and has no previous phrase.",
                DecodingEdges::start);
        Sentences.holds(SECTION, "For each code in turn: the clear code clears its dictionary, and there is no previous "
                + "phrase then.", DecodingEdges::clearCode);
        Sentences.holds(SECTION, "Any other code is valid if its dictionary has it", DecodingEdges::knownCode);
        Sentences.holds(SECTION, "it is also valid if it is the next code, there is a previous phrase",
                DecodingEdges::nextCode);
        Sentences.holds(SECTION, "and the dictionary is not full", DecodingEdges::nextCodeOfFull);
        Sentences.holds(SECTION, "(then its phrase is the previous phrase followed by the first symbol of the previous "
                + "phrase)", DecodingEdges::phraseOfNextCode);
        Sentences.holds(SECTION, "The phrase of the code is appended to the decoded symbols.", DecodingEdges::appending);
        Sentences.holds(SECTION, "If there is a previous phrase", DecodingEdges::addingNeedsPrevious);
        Sentences.holds(SECTION, "and the dictionary is not full, the previous phrase followed by the first symbol of this "
                + "phrase is added as the next code", DecodingEdges::adding);
        Sentences.holds(SECTION, "unless the dictionary has such a phrase already.", DecodingEdges::addingNothingTwice);
        Sentences.holds(SECTION, "Then this phrase is the previous phrase.", DecodingEdges::previousPhrase);
    }

    private static Scene small() {
        return Scene.of("lzw 2 3 reset 90;");
    }

    private static void decodes(String codes, String symbols) {
        LzwCodec codec = small().make();
        Check.same("\"" + codes + "\"", symbols.length(), Check.decodeText(codec, codes));
        Check.same("\"" + codes + "\"", symbols, Check.decodedOf(codec));
    }

    private static void refused(String codes, int error) {
        small().refusesText(codes, error, LzwCodec::decode);
    }

    private static void start() {
        decodes("0", "a");
        decodes("1", "b");
        decodes("2", "");
        refused("3", 0);
        Scene encoding = Scene.of("lzw 2 3 reset 90;", "ababab");
        encoding.refusesText("3", 0, LzwCodec::decode);
        encoding.refusesText("0 4", 2, LzwCodec::decode);
        Scene decoded = small().then(codec -> Check.decodeText(codec, "0 1 0"));
        decoded.refusesText("3", 0, LzwCodec::decode);
        for (int size = 2; size <= 26; size++) {
            Scene scene = Scene.of("lzw " + size + " 5 reset 90;");
            scene.refusesText(String.valueOf(size + 1), 0, LzwCodec::decode);
            String last = String.valueOf(size - 1);
            scene.answers("the last symbol", 1, codec -> Check.decodeText(codec, last));
        }
    }

    private static void clearCode() {
        decodes("0 3 2 0 3", "aaaaaa");
        decodes("2 2 2", "");
        decodes("0 1 0 2 1 3", "ababbb");
        refused("0 3 2 3", 6);
        refused("2 3", 2);
        refused("0 3 2 0 4", 8);
        refused("0 1 0 2 1 4", 10);
    }

    private static void knownCode() {
        decodes("0 1 0 3", "abaab");
        decodes("0 1 0 4", "ababa");
        refused("0 1 0 6", 6);
        refused("0 1 0 7", 6);
        refused("0 1 0 999", 6);
        // A full dictionary has all codes below its capacity.
        decodes(FILLING + " 7", "abaaabbbb");
        refused(FILLING + " 8", 12);
    }

    private static void nextCode() {
        decodes("0 3", "aaa");
        decodes("0 1 4", "abbb");
        refused("0 4", 2);
        refused("0 1 5", 4);
        refused("3", 0);
        refused("2 3", 2);
        refused("0 2 3", 4);
    }

    private static void nextCodeOfFull() {
        // With 7 codes the next one, 7, is the last that there can be; with 8 it would be 8.
        decodes("0 3 4 5 6 7", Examples.repeated('a', 21));
        refused("0 3 4 5 6 7 8", 12);
        Scene wide = Scene.of("lzw 26 5 reset 90;");
        wide.answers("all 32 codes", 1 + 2 + 3 + 4 + 5 + 6, codec -> Check.decodeText(codec, "0 27 28 29 30 31"));
        wide.refusesText("0 27 28 29 30 31 32", 17, LzwCodec::decode);
    }

    private static void phraseOfNextCode() {
        decodes("0 3", "aaa");
        decodes("0 3 4", "aaaaaa");
        decodes("0 1 3 5", "abab" + "aba");
        decodes("0 1 3 5 6", "abab" + "aba" + "abaa");
    }

    private static void appending() {
        decodes("", "");
        decodes("0", "a");
        decodes("0 1 1 0", "abba");
        decodes("0 1 3 4", "ababba");
    }

    private static void addingNeedsPrevious() {
        // The first code adds nothing, so that the second one may add 3 and not 4.
        decodes("0 3", "aaa");
        refused("0 4", 2);
        decodes("0 2 1 3", "abbb");
        refused("0 2 1 4", 6);
    }

    private static void adding() {
        decodes("0 1 3", "abab");
        decodes("0 1 0 4 3", "ababaab");
        // The last place of the dictionary is used, and then it stays as it is.
        decodes("0 3 4 5 6 7 7", Examples.repeated('a', 27));
        decodes(FILLING + " 7 6 5 4 3", "abaaabb" + "bb" + "aab" + "aa" + "ba" + "ab");
        refused(FILLING + " 7 6 8", 16);
    }

    private static void addingNothingTwice() {
        // "aa" is 3, and comes again: 4 stays the next code.
        decodes("0 0 0 4", "aaaaa");
        refused("0 0 0 5", 6);
        // The next code itself, with a phrase that is there already: its code stays the next one.
        decodes("0 0 4", "aaaa");
        decodes("0 0 4 4", "aaaaaaa");
        refused("0 0 4 5", 6);
    }

    private static void previousPhrase() {
        decodes("0 1 3 5", "abab" + "aba");
        decodes("0 3 4", "a" + "aa" + "aaa");
        decodes("0 0 4 4 5", "a" + "a" + "aa" + "aaa" + "aaaa");
        // Behind a full dictionary as well as before: the phrase that comes again is not added.
        decodes(FILLING + " 0 7 0", "abaaabb" + "a" + "bb" + "a");
    }
}

import java.util.HashSet;
import java.util.Set;

/** The sentences of "The dictionary" and "Widths". */
final class DictionaryEdges {
    private static final String SECTION = "The dictionary";

    private DictionaryEdges() {
    }

    static void all() {
        Sentences.holds(SECTION, "Codes are numbered from 0.", DictionaryEdges::numbersOfCodes);
        Sentences.holds(SECTION, "The code of a symbol is the number of the symbol, and its phrase consists of this "
                + "symbol alone.", DictionaryEdges::codesOfSymbols);
        Sentences.holds(SECTION, "The clear code is the alphabet size; it has no phrase.", DictionaryEdges::clearCode);
        Sentences.holds(SECTION, "The first codes are the codes of all symbols and the clear code.",
                DictionaryEdges::firstCodes);
        Sentences.holds(SECTION, "Each further code, in the order of the numbers, has a phrase that is the phrase of an "
                + "earlier code, its prefix, followed by one symbol.", DictionaryEdges::furtherCodes);
        Sentences.holds(SECTION, "No two codes have the same phrase.", DictionaryEdges::differentPhrases);
        Sentences.holds(SECTION, "The dictionary is full if it has as many codes as its capacity.", DictionaryEdges::full);
        Sentences.holds(SECTION, "Clearing the dictionary removes all codes but the first ones.",
                DictionaryEdges::clearing);
        Sentences.holds("Widths", "The width of a code that is written is the smallest number of bits with which all "
                + "numbers from 0 to the number of codes in the dictionary minus 1 can be written, at that moment.",
                DictionaryEdges::widths);
    }

    private static void numbersOfCodes() {
        Scene scene = Examples.busy();
        scene.answers("code 0", 1, codec -> codec.phraseLength(0));
        scene.refuses("code -1", Examples.INDEX, codec -> codec.phraseLength(-1));
        Check.same("the first code written", "0/3", Scene.of("lzw 4 4 reset 90;", "aa").written());
    }

    private static void codesOfSymbols() {
        Scene scene = Scene.of("lzw 26 8 reset 90;");
        for (int symbol = 0; symbol < 26; symbol++) {
            Check.same("phrase", String.valueOf((char) ('a' + symbol)), scene.phrase(symbol));
            LzwCodec codec = scene.make();
            codec.encode(symbol);
            Check.same("current phrase", symbol, codec.currentPhrase());
        }
    }

    private static void clearCode() {
        for (int size = 2; size <= 26; size++) {
            LzwCodec codec = Check.loaded("lzw " + size + " 5 reset 90;");
            int clear = size;
            Check.same("clear code", clear, codec.clearCode());
            Check.same("length", 0, codec.phraseLength(clear));
            Check.same("the last symbol's", 1, codec.phraseLength(clear - 1));
            Check.fails("symbol", Examples.INDEX, () -> codec.phraseSymbol(clear, 0));
        }
    }

    private static void firstCodes() {
        for (int size = 2; size <= 26; size++) {
            int count = size + 1;
            LzwCodec codec = Check.loaded("lzw " + size + " 5 reset 90;");
            Check.same("count", count, codec.codeCount());
            Check.same("the last one", 0, codec.phraseLength(size));
            Check.fails("one more", Examples.INDEX, () -> codec.phraseLength(count));
        }
    }

    private static Scene filled(int width, String policy) {
        int size = Examples.sizeToFill(width);
        return Scene.of("lzw " + size + " " + width + " " + policy + " 90;symbols "
                + Examples.differentPairs(size, Examples.lettersToFill(size, width)) + ";");
    }

    private static void furtherCodes() {
        Scene pairs = filled(8, "freeze");
        int first = pairs.ask(LzwCodec::clearCode) + 1;
        String letters = pairs.encoded();
        for (int i = first; i < 256; i++) {
            int code = i;
            Check.same("code " + code, letters.substring(code - first, code - first + 2), pairs.phrase(code));
        }
        for (Scene scene : new Scene[] {pairs, Scene.of("lzw 2 8 reset 90;symbols " + Examples.repeated('a', 300) + ";")}) {
            for (int i = scene.ask(LzwCodec::clearCode) + 1; i < scene.ask(LzwCodec::codeCount); i++) {
                int code = i;
                int prefix = scene.ask(codec -> codec.prefixOf(code));
                Check.same("an earlier one", true, prefix >= 0 && prefix < code);
                String phrase = scene.phrase(code);
                Check.same("prefix", phrase.substring(0, phrase.length() - 1), scene.phrase(prefix));
            }
        }
    }

    private static void differentPhrases() {
        String twice = "abbabaabbaababba".repeat(12);
        Scene scene = Scene.of("lzw 2 5 freeze 90;symbols " + twice + ";");
        Set<String> phrases = new HashSet<>();
        for (int code = 0; code < 32; code++) {
            Check.same("phrase " + code + " is new", true, phrases.add(scene.phrase(code)));
        }
    }

    private static void full() {
        for (int width = 3; width <= 8; width++) {
            int size = Examples.sizeToFill(width);
            String letters = Examples.differentPairs(size, Examples.lettersToFill(size, width));
            String setup = "lzw " + size + " " + width + " freeze 90;";
            LzwCodec codec = Scene.of(setup, letters.substring(0, letters.length() - 1)).make();
            Check.same("one code less", (1 << width) - 1, codec.codeCount());
            Check.same("one code less", false, codec.isFull());
            codec.encode(letters.charAt(letters.length() - 1) - 'a');
            Check.same("as many codes", 1 << width, codec.codeCount());
            Check.same("as many codes", true, codec.isFull());
        }
        Check.same("one code less than 8 at first", false, Check.loaded("lzw 6 3 reset 90;").isFull());
    }

    private static void clearing() {
        for (int width = 3; width <= 8; width++) {
            int size = Examples.sizeToFill(width);
            Scene scene = filled(width, "reset").then(LzwCodec::flush);
            Check.same("count", size + 1, scene.ask(LzwCodec::codeCount));
            scene.answers("the last one that stays", 0, codec -> codec.phraseLength(size));
            LzwCodec codec = scene.make();
            Check.fails("the first one that goes", Examples.INDEX, () -> codec.phraseLength(size + 1));
            for (int symbol = 0; symbol < size; symbol++) {
                int code = symbol;
                Check.same("no longer phrase", 0, codec.extensionCount(code));
            }
        }
    }

    /** Digits in base 2 instead of a loop over the powers of 2. */
    private static int digits(int number) {
        return Integer.toBinaryString(number).length();
    }

    private static void widths() {
        for (int size = 3; size <= 26; size++) {
            int letters = Math.min(Math.min(size * size, 256 - size), 400);
            Scene scene = Scene.of("lzw " + size + " 8 freeze 90;symbols " + Examples.differentPairs(size, letters) + ";");
            Check.same("codes", letters - 1, scene.ask(LzwCodec::writtenCount));
            for (int i = 0; i < letters - 1; i++) {
                int index = i;
                int count = size + 1 + index;
                Check.same("with " + count + " codes", digits(count - 1), scene.ask(codec -> codec.writtenWidth(index)));
            }
        }
        // The third code of three bits is the last one with 3 codes, the fourth is written with 4 of them.
        Check.same("3 and 4 codes", "0/2 1/2", Scene.of("lzw 2 3 reset 90;", "aba").written());
        Check.same("then 5 codes", "0/2 1/2 0/3", Scene.of("lzw 2 3 reset 90;", "abaa").written());
        Check.same("the clear code, before the clearing", "0/2 1/2 1/3 2/3",
                Scene.of("lzw 2 8 reset 90;", "abb").then(LzwCodec::flush).written());
        Check.same("the clear code of a full dictionary", "0/2 1/2 0/3 3/3 1/3 4/3 2/3",
                Scene.of("lzw 2 3 reset 90;", "abaabbbaa").written());
        Check.same("after the clearing", "0/2 2/2 1/2", Scene.of("lzw 2 8 reset 90;", "a").then(LzwCodec::flush)
                .then(codec -> Check.encodeText(codec, "bb")).written());
    }
}

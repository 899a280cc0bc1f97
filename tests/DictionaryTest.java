import java.util.NoSuchElementException;

/** Promises 16 to 37: the settings, the dictionary and the current phrase. */
public final class DictionaryTest {
    private static final Class<IllegalArgumentException> ARGUMENT = IllegalArgumentException.class;
    private static final Class<IndexOutOfBoundsException> INDEX = IndexOutOfBoundsException.class;
    private static final Class<NoSuchElementException> NO_SUCH = NoSuchElementException.class;
    private static final int[] WRONG_CODES = {-1, -2, Integer.MIN_VALUE, Integer.MAX_VALUE, 9, 10, 16, 256, 300};

    public static void main(String[] args) {
        settings();
        plainWidth();
        fill();
        codeWidth();
        phrases();
        prefixOf();
        extensionOf();
        extensionCount();
        longestPhrase();
        usesOf();
        findTape();
        currentPhrase();
        ifEncoded();
        ifEncodedWithWatch();
        Check.finish();
    }

    /** After "abababac" the dictionary has 5 "ab", 6 "ba", 7 "aba", 8 "abac". */
    private static LzwCodec example() {
        return Check.loaded("lzw 4 4 reset 90;symbols abababac;");
    }

    private static void settings() {
        LzwCodec codec = Check.loaded("lzw 21 7 watch 133;");
        Check.same("alphabetSize", 21, codec.alphabetSize());
        Check.same("greatestWidth", 7, codec.greatestWidth());
        Check.same("policy", LzwCodec.WATCH, codec.policy());
        Check.same("limit", 133, codec.limit());
        Check.same("clearCode", 21, codec.clearCode());
        Check.same("codeCount", 22, codec.codeCount());
        Check.same("capacity", 128, codec.capacity());
        codec.setPolicy(LzwCodec.FREEZE);
        codec.setLimit(134);
        Check.same("policy", LzwCodec.FREEZE, codec.policy());
        Check.same("limit", 134, codec.limit());
        Check.same("policy", LzwCodec.RESET, Check.loaded("lzw 2 3 reset 1;").policy());
        Check.same("FREEZE", 0, LzwCodec.FREEZE);
        Check.same("RESET", 1, LzwCodec.RESET);
        Check.same("WATCH", 2, LzwCodec.WATCH);
        for (int width = 3; width <= 8; width++) {
            LzwCodec wide = Check.loaded("lzw 2 " + width + " reset 90;");
            Check.same("greatestWidth", width, wide.greatestWidth());
            Check.same("capacity", 1 << width, wide.capacity());
        }
    }

    private static void plainWidth() {
        for (int size = 2; size <= 26; size++) {
            int bits = size <= 2 ? 1 : size <= 4 ? 2 : size <= 8 ? 3 : size <= 16 ? 4 : 5;
            LzwCodec codec = Check.loaded("lzw " + size + " 8 reset 90;");
            Check.same("alphabetSize", size, codec.alphabetSize());
            Check.same("clearCode", size, codec.clearCode());
            Check.same("plainWidth of " + size, bits, codec.plainWidth());
        }
    }

    private static void fill() {
        LzwCodec codec = Check.loaded("lzw 2 3 freeze 90;symbols abaabb;");
        Check.same("codeCount", 7, codec.codeCount());
        Check.same("isFull", false, codec.isFull());
        codec.encode(1);
        Check.same("codeCount", 8, codec.codeCount());
        Check.same("isFull", true, codec.isFull());
        codec.flush();
        Check.same("codeCount", 3, codec.codeCount());
        Check.same("isFull", false, codec.isFull());
    }

    private static void codeWidth() {
        LzwCodec codec = Check.loaded("lzw 2 8 freeze 90;");
        boolean grows = true;
        for (int i = 0; i < 120; i++) {
            codec.encode(i * i / 3 % 7 % 2);
            int width = codec.codeWidth();
            grows = grows && codec.codeCount() <= (1 << width) && codec.codeCount() > (1 << (width - 1));
            if (i == 50) {
                codec.flush();
            }
        }
        Check.same("codeWidth", true, grows);
        Check.same("codeWidth of 3 codes", 2, Check.loaded("lzw 2 3 reset 90;").codeWidth());
        Check.same("codeWidth of 4 codes", 2, Check.loaded("lzw 3 3 reset 90;").codeWidth());
        Check.same("codeWidth of 5 codes", 3, Check.loaded("lzw 4 3 reset 90;").codeWidth());
        Check.same("codeWidth of 16 codes", 4, Check.loaded("lzw 15 5 reset 90;").codeWidth());
        Check.same("codeWidth of 17 codes", 5, Check.loaded("lzw 16 5 reset 90;").codeWidth());
        Check.same("codeWidth of 27 codes", 5, Check.loaded("lzw 26 5 reset 90;").codeWidth());
    }

    private static void phrases() {
        LzwCodec codec = example();
        String[] phrases = {"a", "b", "c", "d", "", "ab", "ba", "aba", "abac"};
        for (int code = 0; code < phrases.length; code++) {
            int number = code;
            Check.same("phraseLength", phrases[code].length(), codec.phraseLength(code));
            for (int i = 0; i < phrases[code].length(); i++) {
                Check.same("phraseSymbol", phrases[code].charAt(i) - 'a', codec.phraseSymbol(code, i));
            }
            Check.fails("phraseSymbol behind", INDEX, () -> codec.phraseSymbol(number, phrases[number].length()));
            Check.fails("phraseSymbol before", INDEX, () -> codec.phraseSymbol(number, -1));
            Check.fails("phraseSymbol far", INDEX, () -> codec.phraseSymbol(number, Integer.MAX_VALUE));
        }
        for (int code : WRONG_CODES) {
            Check.fails("phraseLength(" + code + ")", INDEX, () -> codec.phraseLength(code));
            Check.fails("phraseSymbol(" + code + ", 0)", INDEX, () -> codec.phraseSymbol(code, 0));
        }
        codec.flush();
        Check.fails("phraseLength of a removed code", INDEX, () -> codec.phraseLength(5));
        Check.fails("phraseSymbol of a removed code", INDEX, () -> codec.phraseSymbol(5, 0));
    }

    private static void prefixOf() {
        LzwCodec codec = example();
        Check.same("prefixOf(5)", 0, codec.prefixOf(5));
        Check.same("prefixOf(6)", 1, codec.prefixOf(6));
        Check.same("prefixOf(7)", 5, codec.prefixOf(7));
        Check.same("prefixOf(8)", 7, codec.prefixOf(8));
        Check.fails("prefixOf(0)", NO_SUCH, () -> codec.prefixOf(0));
        Check.fails("prefixOf(3)", NO_SUCH, () -> codec.prefixOf(3));
        Check.fails("prefixOf the clear code", NO_SUCH, () -> codec.prefixOf(4));
        for (int code : WRONG_CODES) {
            Check.fails("prefixOf(" + code + ")", INDEX, () -> codec.prefixOf(code));
        }
    }

    private static void extensionOf() {
        LzwCodec codec = example();
        Check.same("extensionOf(0, 1)", 5, codec.extensionOf(0, 1));
        Check.same("extensionOf(1, 0)", 6, codec.extensionOf(1, 0));
        Check.same("extensionOf(5, 0)", 7, codec.extensionOf(5, 0));
        Check.same("extensionOf(7, 2)", 8, codec.extensionOf(7, 2));
        Check.fails("extensionOf(0, 0)", NO_SUCH, () -> codec.extensionOf(0, 0));
        Check.fails("extensionOf(8, 3)", NO_SUCH, () -> codec.extensionOf(8, 3));
        Check.fails("extensionOf(0, -1)", ARGUMENT, () -> codec.extensionOf(0, -1));
        Check.fails("extensionOf(0, 4)", ARGUMENT, () -> codec.extensionOf(0, 4));
        Check.fails("extensionOf(4, 0)", ARGUMENT, () -> codec.extensionOf(4, 0));
        for (int code : WRONG_CODES) {
            Check.fails("extensionOf(" + code + ", 0)", INDEX, () -> codec.extensionOf(code, 0));
            Check.fails("extensionOf(" + code + ", 9)", INDEX, () -> codec.extensionOf(code, 9));
        }
        LzwCodec wide = Check.loaded("lzw 2 3 reset 90;symbols aaab;");
        Check.same("extensionOf: each of two", 3, wide.extensionOf(0, 0));
        Check.same("extensionOf: each of two", 4, wide.extensionOf(3, 1));
    }

    private static void extensionCount() {
        LzwCodec codec = Check.loaded("lzw 4 8 reset 90;symbols aabacadbabbcdcaba;");
        Check.same("extensionCount(a)", 4, codec.extensionCount(0));
        Check.same("extensionCount(b)", 3, codec.extensionCount(1));
        Check.same("extensionCount(c)", 2, codec.extensionCount(2));
        Check.same("extensionCount(d)", 2, codec.extensionCount(3));
        Check.same("extensionCount(clear)", 0, codec.extensionCount(4));
        Check.same("extensionCount(ba)", 1, codec.extensionCount(codec.extensionOf(1, 0)));
        Check.same("extensionCount(aa)", 0, codec.extensionCount(codec.extensionOf(0, 0)));
        for (int code : new int[] {-1, codec.codeCount(), 256, Integer.MAX_VALUE}) {
            Check.fails("extensionCount(" + code + ")", INDEX, () -> codec.extensionCount(code));
        }
        codec.flush();
        Check.same("extensionCount after clearing", 0, codec.extensionCount(0));
    }

    private static void longestPhrase() {
        LzwCodec codec = new LzwCodec();
        Check.same("longestPhrase: first codes", 0, codec.longestPhrase());
        Check.encodeText(codec, "aba");
        Check.same("longestPhrase: the smallest", 5, codec.longestPhrase());
        Check.encodeText(codec, "babac");
        Check.same("longestPhrase", 8, codec.longestPhrase());
        codec.encode(3);
        Check.same("longestPhrase: not the latest", 8, codec.longestPhrase());
        codec.flush();
        Check.same("longestPhrase: cleared", 0, codec.longestPhrase());
    }

    private static void usesOf() {
        LzwCodec codec = example();
        int[] uses = {1, 1, 0, 0, 0, 1, 0, 1, 0};
        for (int code = 0; code < uses.length; code++) {
            Check.same("usesOf(" + code + ")", uses[code], codec.usesOf(code));
        }
        for (int code : WRONG_CODES) {
            Check.fails("usesOf(" + code + ")", INDEX, () -> codec.usesOf(code));
        }
        codec.flush();
        Check.fails("usesOf a removed code", INDEX, () -> codec.usesOf(5));
        Check.same("usesOf the clear code", 1, codec.usesOf(4));
        Check.encodeText(codec, "cdcdcdc");
        Check.same("usesOf before and after clearings", 2, codec.usesOf(2));
        Check.same("usesOf with another phrase", 2, codec.usesOf(5));
        codec.restart();
        Check.same("usesOf after restart", 0, codec.usesOf(2));
    }

    private static void finds(String letters, int code) {
        LzwCodec codec = example();
        Check.type(codec, letters);
        Check.same("findTape " + letters, code, codec.findTape());
        Check.same("findTape " + letters + ": tape", letters.length(), codec.truncate(0));
    }

    private static void findsNot(String letters) {
        LzwCodec codec = example();
        Check.type(codec, letters);
        Check.fails("findTape " + letters, NO_SUCH, () -> codec.findTape());
        Check.same("findTape " + letters + ": tape", letters.length(), codec.truncate(0));
    }

    private static void findTape() {
        finds("a", 0);
        finds("d", 3);
        finds("ab", 5);
        finds("ba", 6);
        finds("aba", 7);
        finds("abac", 8);
        findsNot("");
        findsNot("e");
        findsNot("abe");
        findsNot("ac");
        findsNot("abaca");
        findsNot("aba ");
        findsNot(" a");
        findsNot("A");
        findsNot("`");
        findsNot("\u0000");
        findsNot("\u00ff");
    }

    private static void currentPhrase() {
        LzwCodec codec = new LzwCodec();
        Check.same("hasPhrase at first", false, codec.hasPhrase());
        Check.fails("currentPhrase at first", NO_SUCH, () -> codec.currentPhrase());
        codec.encode(0);
        Check.same("hasPhrase", true, codec.hasPhrase());
        Check.same("currentPhrase", 0, codec.currentPhrase());
        Check.encodeText(codec, "bab");
        Check.same("currentPhrase", 5, codec.currentPhrase());
        codec.flush();
        Check.same("hasPhrase after flush", false, codec.hasPhrase());
        Check.fails("currentPhrase after flush", NO_SUCH, () -> codec.currentPhrase());
        codec.undo();
        Check.same("currentPhrase after undo", 5, codec.currentPhrase());
        codec.restart();
        Check.same("hasPhrase after restart", false, codec.hasPhrase());
        Check.fails("currentPhrase after restart", NO_SUCH, () -> codec.currentPhrase());
    }

    private static void wouldWrite(LzwCodec codec, int symbol, int codes, int clears) {
        Check.same("codesIfEncoded", codes, codec.codesIfEncoded(symbol));
        Check.same("clearsIfEncoded", clears, codec.clearsIfEncoded(symbol));
    }

    private static void ifEncoded() {
        LzwCodec codec = new LzwCodec();
        for (int symbol : new int[] {-1, 4, Integer.MIN_VALUE, Integer.MAX_VALUE}) {
            Check.fails("codesIfEncoded(" + symbol + ")", ARGUMENT, () -> codec.codesIfEncoded(symbol));
            Check.fails("clearsIfEncoded(" + symbol + ")", ARGUMENT, () -> codec.clearsIfEncoded(symbol));
        }
        wouldWrite(codec, 0, 0, 0);
        codec.encode(0);
        wouldWrite(codec, 0, 1, 0);
        Check.encodeText(codec, "ba");
        wouldWrite(codec, 1, 0, 0);
        wouldWrite(codec, 0, 1, 0);
        LzwCodec reset = Check.loaded("lzw 2 3 reset 200;symbols abaabb;");
        wouldWrite(reset, 1, 1, 0);
        reset.encode(1);
        wouldWrite(reset, 0, 0, 0);
        reset.encode(0);
        wouldWrite(reset, 0, 2, 1);
        wouldWrite(reset, 1, 2, 1);
        reset.setPolicy(LzwCodec.FREEZE);
        wouldWrite(reset, 0, 1, 0);
        reset.flush();
        wouldWrite(reset, 0, 0, 0);
    }

    private static void ifEncodedWithWatch() {
        LzwCodec codec = Check.loaded("lzw 2 3 watch 200;symbols abaabbba;");
        // Before the code of the current phrase: 13 bits for 6 symbols, 216 percent; with it 200.
        Check.same("percent before", 216, codec.percentSinceClear());
        wouldWrite(codec, 0, 1, 0);
        codec.setLimit(199);
        wouldWrite(codec, 0, 2, 1);
        wouldWrite(codec, 1, 2, 1);
        LzwCodec grown = Check.loaded("lzw 2 3 watch 200;symbols abaabbbaabb;");
        grown.setLimit(172);
        wouldWrite(grown, 0, 1, 0);
        grown.setLimit(171);
        wouldWrite(grown, 0, 2, 1);
    }
}

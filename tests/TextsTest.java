/** Promises 1 to 6: a new object, the tape, load, decode, errorPosition. */
public final class TextsTest {
    private static final Class<IllegalArgumentException> ARGUMENT = IllegalArgumentException.class;
    private static final Class<IllegalStateException> STATE = IllegalStateException.class;

    public static void main(String[] args) {
        newObject();
        append();
        truncate();
        loadTakesWhatFits();
        loadRefusesWhatDoesNotFit();
        loadCountsSymbols();
        loadStartsAnew();
        failedLoadChangesNothing();
        decodeTakesWhatFits();
        truncatedBytesAreGone();
        decodeRefusesWhatDoesNotFit();
        decodeCountsSymbols();
        decodeUsesPresentSettings();
        failedDecodeChangesNothing();
        errorPosition();
        Check.finish();
    }

    private static void newObject() {
        LzwCodec codec = new LzwCodec();
        Check.same("new: state", Check.stateOf(Check.loaded("lzw 4 4 reset 90;")), Check.stateOf(codec));
        Check.same("new: setup", "lzw 4 4 reset 90;", Check.setupOf(codec));
        Check.same("new: tape", 0, codec.truncate(0));
        Check.same("new: error", -1, codec.errorPosition());
        Check.same("new: decoded", 0, codec.decodedCount());
        Check.fails("new: undo", STATE, () -> codec.undo());
        Check.fails("new: restore", java.util.NoSuchElementException.class, () -> codec.restore(0));
    }

    private static void append() {
        LzwCodec codec = new LzwCodec();
        Check.type(codec, "lzw 26 5 reset 100;symbols ");
        Check.same("append: length", 47, codec.append(0x61626364, 0x65666768, 0x696a6b6c, 0x6d6e6f70, 0x71727374));
        Check.type(codec, ";");
        Check.same("append: load", 20, codec.load());
        Check.same("append: order of the bytes", "abcdefghijklmnopqrst", Check.encodedOf(codec));
        for (int i = 1; i <= 40; i++) {
            Check.same("append: length", 20 * i, codec.append(-1, 0, 1, Integer.MIN_VALUE, Integer.MAX_VALUE));
        }
        Check.fails("append: 820", STATE, () -> codec.append(0, 0, 0, 0, 0));
        Check.same("append: nothing appended", 799, codec.truncate(1));
        Check.fails("append: 819", STATE, () -> codec.append(0, 0, 0, 0, 0));
        Check.same("append: nothing appended", 780, codec.truncate(19));
        Check.same("append: 800", 800, codec.append(0, 0, 0, 0, 0));
    }

    private static void truncate() {
        LzwCodec codec = new LzwCodec();
        Check.same("truncate(0) of nothing", 0, codec.truncate(0));
        Check.fails("truncate(1) of nothing", ARGUMENT, () -> codec.truncate(1));
        codec.append(0x61626364, 0x61626364, 0x61626364, 0x61626364, 0x61626364);
        Check.fails("truncate(21)", ARGUMENT, () -> codec.truncate(21));
        Check.fails("truncate(-1)", ARGUMENT, () -> codec.truncate(-1));
        Check.fails("truncate(least)", ARGUMENT, () -> codec.truncate(Integer.MIN_VALUE));
        Check.fails("truncate(greatest)", ARGUMENT, () -> codec.truncate(Integer.MAX_VALUE));
        Check.same("truncate(17)", 3, codec.truncate(17));
        codec.encodeTape();
        Check.same("truncate: the end is removed", "abc", Check.encodedOf(codec));
        codec.append(0, 0, 0, 0, 0);
        Check.same("truncate(all)", 0, codec.truncate(20));
        Check.fails("truncate: no change", STATE, () -> {
            codec.undo();
            codec.undo();
        });
    }

    private static void loads(String text, String setup) {
        LzwCodec codec = Check.loaded(text);
        Check.same("load " + text, setup, Check.setupOf(codec));
        Check.same("load " + text + ": error", -1, codec.errorPosition());
        Check.same("load " + text + ": tape", 0, codec.truncate(0));
        Check.same("load " + text + ": encoded", codec.encodedCount(), setup.length() - setup.indexOf(';') > 1
                ? setup.length() - setup.indexOf(';') - 10 : 0);
    }

    private static void loadTakesWhatFits() {
        loads("lzw 4 4 reset 90;", "lzw 4 4 reset 90;");
        loads(" \n lzw\n4 4\n\nreset 90 ; \n", "lzw 4 4 reset 90;");
        loads("lzw4 4reset90;", "lzw 4 4 reset 90;");
        loads("lzw 004 04 watch 007;", "lzw 4 4 watch 7;");
        loads("lzw 2 3 freeze 1;", "lzw 2 3 freeze 1;");
        loads("lzw 26 8 watch 200;", "lzw 26 8 watch 200;");
        loads("lzw 6 3 reset 90;", "lzw 6 3 reset 90;");
        loads("lzw 14 4 reset 90;", "lzw 14 4 reset 90;");
        loads("lzw 26 5 reset 90;", "lzw 26 5 reset 90;");
        loads("lzw 4 4 reset 90;symbols abcd;", "lzw 4 4 reset 90;symbols abcd;");
        loads("lzw 4 4 reset 90;symbols ab;symbols\ncd ; symbols a;", "lzw 4 4 reset 90;symbols abcda;");
        loads("lzw 26 8 reset 90;symbols symbols;symbols lzw;", "lzw 26 8 reset 90;symbols symbolslzw;");
    }

    private static void refuses(String text, int position) {
        LzwCodec codec = new LzwCodec();
        Check.type(codec, text);
        Check.fails("load " + text, ARGUMENT, () -> codec.load());
        Check.same("load " + text + ": error", position, codec.errorPosition());
        Check.same("load " + text + ": tape", 0, codec.truncate(0));
    }

    private static void loadRefusesWhatDoesNotFit() {
        refuses("", 0);
        refuses(" \n ", 3);
        refuses("lzw", 3);
        refuses("lzw ", 4);
        refuses(" lzx 4 4 reset 90;", 1);
        refuses("lz 4 4 reset 90;", 0);
        refuses("lzww 4 4 reset 90;", 0);
        refuses("LZW 4 4 reset 90;", 0);
        refuses("lzw\t4 4 reset 90;", 3);
        refuses("lzw\r4 4 reset 90;", 3);
        refuses("lzw four 4 reset 90;", 4);
        refuses("lzw 1 4 reset 90;", 4);
        refuses("lzw 0 4 reset 90;", 4);
        refuses("lzw 27 8 reset 90;", 4);
        refuses("lzw 0004 4 reset 90;", 4);
        refuses("lzw -4 4 reset 90;", 4);
        refuses("lzw 4 2 reset 90;", 6);
        refuses("lzw 4 9 reset 90;", 6);
        refuses("lzw 7 3 reset 90;", 6);
        refuses("lzw 15 4 reset 90;", 7);
        refuses("lzw 26 4 reset 90;", 7);
        refuses("lzw 4 4 resets 90;", 8);
        refuses("lzw 4 4 rese 90;", 8);
        refuses("lzw 4 4 1 90;", 8);
        refuses("lzw 4 4 reset 0;", 14);
        refuses("lzw 4 4 reset 201;", 14);
        refuses("lzw 4 4 reset 0090;", 14);
        refuses("lzw 4 4 reset ;", 14);
        refuses("lzw 4 4 reset 90", 16);
        refuses("lzw 4 4 reset 90 \n", 18);
        refuses("lzw 4 4 reset 90 symbols a;", 17);
        refuses("lzw 4 4 reset 90;;", 17);
        refuses("lzw 4 4 reset 90; 7", 18);
        refuses("lzw 4 4 reset 90;symbol a;", 17);
        refuses("lzw 4 4 reset 90;symbolsa;", 17);
        refuses("lzw 4 4 reset 90;symbols", 24);
        refuses("lzw 4 4 reset 90;symbols ;", 25);
        refuses("lzw 4 4 reset 90;symbols abcde;", 25);
        refuses("lzw 4 4 reset 90;symbols ab cd;", 28);
        refuses("lzw 4 4 reset 90;symbols aB;", 26);
        refuses("lzw 4 4 reset 90;symbols ab", 27);
        refuses("lzw 4 4 reset 90;symbols ab\n", 28);
        refuses("lzw 4 4 reset 90;symbols ab;symbols e;", 36);
        refuses("lzw 4 4 reset 90;\u00e9", 17);
        refuses("lzw 4 4 reset 90;\u0000", 17);
        refuses("lzw 4 4 reset 90;\u008a", 17);
    }

    private static void loadCountsSymbols() {
        String head = "lzw 2 8 reset 90;symbols " + "ab".repeat(100) + ";symbols ";
        LzwCodec codec = new LzwCodec();
        Check.type(codec, head + "ba".repeat(100) + ";");
        Check.same("load: 400 symbols", 400, codec.load());
        Check.type(codec, head + "ba".repeat(100) + "a;");
        Check.fails("load: 401 symbols", ARGUMENT, () -> codec.load());
        Check.same("load: 401 symbols, error", head.length(), codec.errorPosition());
        Check.type(codec, head + "ba".repeat(100) + ";symbols a;");
        Check.fails("load: 400 and 1 symbols", ARGUMENT, () -> codec.load());
        Check.same("load: 400 and 1 symbols, error", head.length() + 209, codec.errorPosition());
        Check.type(codec, "lzw 2 8 reset 90;symbols " + "a".repeat(401) + ";");
        Check.fails("load: 401 symbols in one", ARGUMENT, () -> codec.load());
        Check.same("load: 401 symbols in one, error", 25, codec.errorPosition());
        Check.same("load: 400 stay", 400, codec.encodedCount());
    }

    private static void loadStartsAnew() {
        LzwCodec codec = new LzwCodec();
        Check.encodeText(codec, "abcdabcd");
        codec.flush();
        codec.save(0);
        codec.save(1);
        Check.decodeText(codec, "0 1");
        Check.type(codec, "lzw 2 3 freeze 50;symbols abaab;");
        Check.same("load: answer", 5, codec.load());
        Check.same("load: codes", "0/2 1/2 0/3", Check.writtenOf(codec));
        Check.same("load: phrase", 3, codec.currentPhrase());
        Check.same("load: codes in the dictionary", 6, codec.codeCount());
        Check.same("load: clear codes", 0, codec.clearCount());
        Check.same("load: decoded", 0, codec.decodedCount());
        Check.fails("load: undo", STATE, () -> codec.undo());
        Check.fails("load: restore(0)", java.util.NoSuchElementException.class, () -> codec.restore(0));
        Check.fails("load: restore(1)", java.util.NoSuchElementException.class, () -> codec.restore(1));
        LzwCodec reset = Check.loaded("lzw 2 3 reset 90;symbols abaabbba;");
        LzwCodec typed = Check.loaded("lzw 2 3 reset 90;");
        Check.encodeText(typed, "abaabbba");
        Check.same("load: encodes with the settings of the text", Check.stateOf(typed), Check.stateOf(reset));
    }

    private static void failedLoadChangesNothing() {
        LzwCodec codec = new LzwCodec();
        Check.encodeText(codec, "abcdabcd");
        codec.save(1);
        Check.decodeText(codec, "0 1");
        String before = Check.stateOf(codec);
        Check.type(codec, "lzw 2 3 freeze 50;symbols aba");
        Check.fails("failed load", ARGUMENT, () -> codec.load());
        Check.same("failed load: tape", 0, codec.truncate(0));
        Check.same("failed load: state", before, Check.stateOf(codec));
        Check.same("failed load: decoded", "ab", Check.decodedOf(codec));
        Check.same("failed load: saved", 8, codec.restore(1));
        Check.same("failed load: undo", 1, codec.undo());
    }

    private static void decodes(String setup, String codes, String symbols) {
        LzwCodec codec = Check.loaded(setup);
        Check.same("decode " + codes, symbols.length(), Check.decodeText(codec, codes));
        Check.same("decode " + codes + ": symbols", symbols, Check.decodedOf(codec));
        Check.same("decode " + codes + ": error", -1, codec.errorPosition());
        Check.same("decode " + codes + ": tape", 0, codec.truncate(0));
    }

    private static void decodeTakesWhatFits() {
        String setup = "lzw 4 4 reset 90;";
        decodes(setup, "", "");
        decodes(setup, " \n ", "");
        decodes(setup, "4", "");
        decodes(setup, "4 4 004", "");
        decodes(setup, "0 1 2 3", "abcd");
        decodes(setup, "\n00\n001 5 ", "abab");
        decodes(setup, "0 1 5 7 2", "abababac");
        decodes(setup, "0 5", "aaa");
        decodes(setup, "0 5 6 7", "aaaaaaaaaa");
        decodes(setup, "0 5 4 0 5", "aaaaaa");
        decodes(setup, "0 1 4 2 3 5", "abcdcd");
        // The next code whose phrase is there already: no code is added.
        decodes(setup, "0 0 6", "aaaa");
        decodes(setup, "0 0 6 6", "aaaaaaa");
        decodes(setup, "0 0 0 5", "aaaaa");
        decodes(setup, "0 0 0 1 6", "aaabab");
        decodes("lzw 2 3 freeze 90;", "0 3 4 5 6 7", "a".repeat(21));
        decodes("lzw 2 3 freeze 90;", "0 3 4 5 6 7 7 1 3 2 0 3", "a".repeat(27) + "b" + "a".repeat(5));
        decodes("lzw 2 3 reset 90;", "0 3 4 5 6 7 7", "a".repeat(27));
    }

    private static void truncatedBytesAreGone() {
        LzwCodec codec = new LzwCodec();
        Check.type(codec, "0 12");
        codec.truncate(1);
        Check.same("decode: a digit behind the end", 2, codec.decode());
        Check.same("decode: a digit behind the end", "ab", Check.decodedOf(codec));
        Check.type(codec, "lzw 4 4 reset 90;;");
        codec.truncate(1);
        Check.same("load: a semicolon behind the end", 0, codec.load());
        Check.type(codec, "lzwa");
        codec.truncate(1);
        Check.fails("load: a letter behind the end", ARGUMENT, () -> codec.load());
        Check.same("load: a letter behind the end", 3, codec.errorPosition());
    }

    private static void refusesCodes(String setup, String codes, int position) {
        LzwCodec codec = Check.loaded(setup);
        Check.type(codec, codes);
        Check.fails("decode " + codes, ARGUMENT, () -> codec.decode());
        Check.same("decode " + codes + ": error", position, codec.errorPosition());
        Check.same("decode " + codes + ": tape", 0, codec.truncate(0));
    }

    private static void decodeRefusesWhatDoesNotFit() {
        String setup = "lzw 4 4 reset 90;";
        refusesCodes(setup, "5", 0);
        refusesCodes(setup, "  6", 2);
        refusesCodes(setup, "0 6", 2);
        refusesCodes(setup, "0 999", 2);
        refusesCodes(setup, "4 5", 2);
        refusesCodes(setup, "0 1 4 5", 6);
        refusesCodes(setup, "0 1 4 0 6", 8);
        refusesCodes(setup, "0 0 6 7", 6);
        refusesCodes(setup, "0 0001", 2);
        refusesCodes(setup, "0;", 1);
        refusesCodes(setup, "0 a", 2);
        refusesCodes(setup, "0 -1", 2);
        refusesCodes(setup, "0\t1", 1);
        refusesCodes(setup, "0 1 \u00ff", 4);
        refusesCodes("lzw 2 3 freeze 90;", "0 3 4 5 6 7 8", 12);
    }

    private static void decodeCountsSymbols() {
        StringBuilder codes = new StringBuilder("0");
        for (int code = 3; code <= 28; code++) {
            codes.append(' ').append(code);
        }
        String setup = "lzw 2 8 freeze 90;";
        decodes(setup, codes.toString(), "a".repeat(378));
        decodes(setup, codes + " 23", "a".repeat(400));
        decodes(setup, codes + " 23 2", "a".repeat(400));
        refusesCodes(setup, codes + " 24", codes.length() + 1);
        refusesCodes(setup, codes + " 29", codes.length() + 1);
        refusesCodes(setup, codes + " 23 2 0", codes.length() + 6);
        decodes(setup, "0 ".repeat(400), "a".repeat(400));
        refusesCodes(setup, "0\n".repeat(399) + "03", 798);
    }

    private static void decodeUsesPresentSettings() {
        LzwCodec codec = Check.loaded("lzw 2 3 freeze 90;symbols abababab;");
        int count = codec.codeCount();
        Check.type(codec, "0 4");
        Check.fails("decode: not the dictionary of the encoder", ARGUMENT, () -> codec.decode());
        Check.same("decode", 3, Check.decodeText(codec, "0 3 2"));
        Check.same("decode: replaces the earlier text", 1, Check.decodeText(codec, "1"));
        Check.same("decode: replaces the earlier text", "b", Check.decodedOf(codec));
        Check.same("decode: leaves the encoder", count, codec.codeCount());
        Check.same("decode: leaves the encoder", 8, codec.encodedCount());
        Check.fails("decode: is no change", STATE, () -> codec.undo());
        Check.same("decode: nothing", 0, Check.decodeText(codec, ""));
        Check.same("decode: nothing", 0, codec.decodedCount());
    }

    private static void failedDecodeChangesNothing() {
        LzwCodec codec = new LzwCodec();
        Check.encodeText(codec, "abab");
        Check.decodeText(codec, "0 1 5");
        String before = Check.stateOf(codec);
        Check.type(codec, "3 2 1 0 77");
        Check.fails("failed decode", ARGUMENT, () -> codec.decode());
        Check.same("failed decode: text", "abab", Check.decodedOf(codec));
        Check.same("failed decode: state", before, Check.stateOf(codec));
        Check.same("failed decode: undo", 0, codec.undo());
    }

    private static void errorPosition() {
        LzwCodec codec = new LzwCodec();
        Check.same("error: at first", -1, codec.errorPosition());
        Check.type(codec, "0 7");
        Check.fails("error: decode", ARGUMENT, () -> codec.decode());
        Check.same("error: decode", 2, codec.errorPosition());
        Check.fails("error: encode", ARGUMENT, () -> codec.encode(9));
        codec.encode(0);
        codec.save(0);
        codec.restore(0);
        codec.undo();
        codec.restart();
        Check.same("error: stays", 2, codec.errorPosition());
        Check.decodeText(codec, "0");
        Check.same("error: none", -1, codec.errorPosition());
        Check.fails("error: load", ARGUMENT, () -> codec.load());
        Check.same("error: load", 0, codec.errorPosition());
        Check.type(codec, "lzw 4 4 reset 90;");
        codec.load();
        Check.same("error: none", -1, codec.errorPosition());
    }
}

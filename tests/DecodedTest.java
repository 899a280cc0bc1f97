/** Promises 55 to 61: the decoded text, what a decoder restores, and the setup text. */
public final class DecodedTest {
    private static final Class<IndexOutOfBoundsException> INDEX = IndexOutOfBoundsException.class;

    public static void main(String[] args) {
        decoded();
        longestRun();
        restored();
        setup();
        setupOfAllSettings();
        setupComesBack();
        Check.finish();
    }

    private static void decoded() {
        LzwCodec codec = new LzwCodec();
        Check.same("decodedCount at first", 0, codec.decodedCount());
        Check.fails("decodedSymbol at first", INDEX, () -> codec.decodedSymbol(0));
        Check.decodeText(codec, "3 2 1 0");
        Check.same("decodedCount", 4, codec.decodedCount());
        for (int i = 0; i < 4; i++) {
            Check.same("decodedSymbol", 3 - i, codec.decodedSymbol(i));
        }
        for (int index : new int[] {-1, 4, 400, Integer.MIN_VALUE, Integer.MAX_VALUE}) {
            Check.fails("decodedSymbol(" + index + ")", INDEX, () -> codec.decodedSymbol(index));
        }
        codec.encode(1);
        codec.flush();
        Check.same("restored", true, codec.isRestored());
        Check.same("decodedSymbol: stays", "dcba", Check.decodedOf(codec));
        Check.decodeText(codec, "1");
        Check.fails("decodedSymbol: shorter text", INDEX, () -> codec.decodedSymbol(1));
    }

    private static void run(String codes, int length) {
        LzwCodec codec = Check.loaded("lzw 2 8 reset 90;");
        Check.decodeText(codec, codes);
        Check.same("longestDecodedRun of " + codes, length, codec.longestDecodedRun());
    }

    private static void longestRun() {
        Check.same("longestDecodedRun at first", 0, new LzwCodec().longestDecodedRun());
        run("", 0);
        run("2", 0);
        run("0", 1);
        run("0 1 0 1", 1);
        run("0 0 1 1 1 0", 3);
        run("0 3 4", 6);
        run("1 0 0 0", 3);
        run("0 0 0 1", 3);
        run("0 ".repeat(400), 400);
    }

    private static void restored() {
        LzwCodec codec = Check.loaded("lzw 2 3 reset 90;");
        Check.same("restoredCount of nothing", 0, codec.restoredCount());
        Check.same("isRestored of nothing", true, codec.isRestored());
        Check.encodeText(codec, "abaabbb");
        Check.same("restoredCount", 6, codec.restoredCount());
        Check.encodeText(codec, "aaab");
        Check.same("restoredCount with a clear code", 10, codec.restoredCount());
        Check.same("isRestored with a clear code", true, codec.isRestored());
        codec.flush();
        Check.same("restoredCount after flush", 11, codec.restoredCount());
        LzwCodec same = Check.loaded("lzw 2 8 freeze 90;symbols " + "a".repeat(400) + ";");
        // The phrases have 1 to 27 symbols; the rest are the current phrase.
        Check.same("restoredCount of equal symbols", 378, same.restoredCount());
        same.flush();
        Check.same("restoredCount of equal symbols", 400, same.restoredCount());
        Check.same("isRestored", true, same.isRestored());
    }

    private static void setup() {
        LzwCodec codec = new LzwCodec();
        Check.same("setupByte(0)", 'l', codec.setupByte(0));
        Check.same("setupByte(4)", '4', codec.setupByte(4));
        Check.same("setupLength", 17, codec.setupLength());
        Check.fails("setupByte(17)", INDEX, () -> codec.setupByte(17));
        Check.fails("setupByte(-1)", INDEX, () -> codec.setupByte(-1));
        Check.fails("setupByte(greatest)", INDEX, () -> codec.setupByte(Integer.MAX_VALUE));
        codec.encode(0);
        Check.same("setupByte(17)", 's', codec.setupByte(17));
        Check.same("setup: one symbol", "lzw 4 4 reset 90;symbols a;", Check.setupOf(codec));
        Check.encodeText(codec, "bc");
        codec.flush();
        codec.encode(3);
        codec.setPolicy(LzwCodec.WATCH);
        codec.setLimit(7);
        Check.same("setup: one statement", "lzw 4 4 watch 7;symbols abcd;", Check.setupOf(codec));
        Check.same("setupLength", 29, codec.setupLength());
        Check.same("setupByte(28)", ';', codec.setupByte(28));
        Check.fails("setupByte(29)", INDEX, () -> codec.setupByte(29));
        codec.restart();
        Check.same("setup: no statement", "lzw 4 4 watch 7;", Check.setupOf(codec));
        Check.fails("setupByte(16)", INDEX, () -> codec.setupByte(16));
    }

    private static void setupOfAllSettings() {
        for (String policy : new String[] {"freeze", "reset", "watch"}) {
            for (int limit : new int[] {1, 9, 10, 19, 99, 100, 101, 110, 200}) {
                String text = "lzw 26 8 " + policy + " " + limit + ";";
                Check.same("setup", text, Check.setupOf(Check.loaded(text)));
            }
        }
        for (int size = 2; size <= 26; size++) {
            char last = (char) ('a' + size - 1);
            String text = "lzw " + size + " 5 reset 90;symbols a" + last + ";";
            Check.same("setup", text, Check.setupOf(Check.loaded(text)));
        }
    }

    private static void setupComesBack() {
        String head = "lzw 26 8 freeze 200;symbols ";
        String text = head + "abcdefghijklmnopqrstuvwxyz".repeat(15) + "abcdefghij;";
        LzwCodec codec = Check.loaded(text);
        Check.same("setup: the longest", text.length(), codec.setupLength());
        Check.same("setup: the longest", text, Check.setupOf(codec));
        Check.same("setup: comes back", text, Check.setupOf(Check.loaded(text)));
    }
}

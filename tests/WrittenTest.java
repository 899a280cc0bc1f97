/** Promises 38 to 54: what was encoded and written, and the ratios. */
public final class WrittenTest {
    private static final Class<IndexOutOfBoundsException> INDEX = IndexOutOfBoundsException.class;

    public static void main(String[] args) {
        encoded();
        written();
        bits();
        bytes();
        manyBits();
        sinceClear();
        percent();
        saved();
        bitsPerSymbol();
        fillShare();
        mostCodes();
        Check.finish();
    }

    /** Codes 0/2 1/2 0/3 3/3 1/3 4/3, of 16 bits for 8 symbols; "abb" is the current phrase. */
    private static LzwCodec example() {
        return Check.loaded("lzw 2 3 freeze 90;symbols abaabbbaabb;");
    }

    private static void encoded() {
        LzwCodec codec = new LzwCodec();
        Check.same("encodedCount", 0, codec.encodedCount());
        Check.fails("encodedSymbol(0)", INDEX, () -> codec.encodedSymbol(0));
        Check.encodeText(codec, "dcab");
        codec.flush();
        codec.encode(2);
        Check.same("encodedCount", 5, codec.encodedCount());
        Check.same("encodedSymbol", "dcabc", Check.encodedOf(codec));
        Check.fails("encodedSymbol(5)", INDEX, () -> codec.encodedSymbol(5));
        Check.fails("encodedSymbol(-1)", INDEX, () -> codec.encodedSymbol(-1));
        Check.fails("encodedSymbol(400)", INDEX, () -> codec.encodedSymbol(400));
        codec.restart();
        Check.same("encodedCount after restart", 0, codec.encodedCount());
        Check.fails("encodedSymbol after restart", INDEX, () -> codec.encodedSymbol(0));
    }

    private static void written() {
        LzwCodec codec = new LzwCodec();
        Check.same("writtenCount", 0, codec.writtenCount());
        Check.fails("writtenCode(0)", INDEX, () -> codec.writtenCode(0));
        Check.fails("writtenWidth(0)", INDEX, () -> codec.writtenWidth(0));
        Check.encodeText(codec, "abababac");
        codec.flush();
        int[] codes = {0, 1, 5, 7, 2, 4};
        int[] widths = {3, 3, 3, 3, 4, 4};
        Check.same("writtenCount", codes.length, codec.writtenCount());
        for (int i = 0; i < codes.length; i++) {
            Check.same("writtenCode", codes[i], codec.writtenCode(i));
            Check.same("writtenWidth", widths[i], codec.writtenWidth(i));
        }
        for (int index : new int[] {-1, 6, 800, Integer.MIN_VALUE, Integer.MAX_VALUE}) {
            Check.fails("writtenCode(" + index + ")", INDEX, () -> codec.writtenCode(index));
            Check.fails("writtenWidth(" + index + ")", INDEX, () -> codec.writtenWidth(index));
        }
    }

    private static void bits() {
        LzwCodec codec = example();
        Check.same("bitCount", 16, codec.bitCount());
        Check.same("bitAt", "0001000011001100", Check.bitsOf(codec));
        Check.fails("bitAt(16)", INDEX, () -> codec.bitAt(16));
        Check.fails("bitAt(-1)", INDEX, () -> codec.bitAt(-1));
        Check.fails("bitAt(greatest)", INDEX, () -> codec.bitAt(Integer.MAX_VALUE));
        codec.flush();
        Check.same("bitCount with a clear code", 22, codec.bitCount());
        Check.same("bitAt with a clear code", "0001000011001100110010", Check.bitsOf(codec));
        LzwCodec fresh = new LzwCodec();
        Check.same("bitCount of nothing", 0, fresh.bitCount());
        Check.fails("bitAt of nothing", INDEX, () -> fresh.bitAt(0));
    }

    private static void bytes() {
        LzwCodec codec = example();
        Check.same("byteCount", 2, codec.byteCount());
        Check.same("byteAt(0)", 0b00010000, codec.byteAt(0));
        Check.same("byteAt(1)", 0b11001100, codec.byteAt(1));
        Check.fails("byteAt(2)", INDEX, () -> codec.byteAt(2));
        codec.flush();
        Check.same("byteCount rounded up", 3, codec.byteCount());
        Check.same("byteAt(2) filled up", 0b11001000, codec.byteAt(2));
        Check.fails("byteAt(3)", INDEX, () -> codec.byteAt(3));
        Check.fails("byteAt(-1)", INDEX, () -> codec.byteAt(-1));
        Check.fails("byteAt(greatest)", INDEX, () -> codec.byteAt(Integer.MAX_VALUE));
        Check.fails("byteAt(an eighth)", INDEX, () -> codec.byteAt(1 << 29));
        LzwCodec fresh = new LzwCodec();
        Check.same("byteCount of nothing", 0, fresh.byteCount());
        Check.fails("byteAt of nothing", INDEX, () -> fresh.byteAt(0));
        fresh.encode(3);
        fresh.encode(3);
        Check.same("byteCount of 3 bits", 1, fresh.byteCount());
        Check.same("byteAt of 3 bits", 0b01100000, fresh.byteAt(0));
        Check.encodeText(fresh, "ba");
        Check.same("bitCount", 9, fresh.bitCount());
        Check.same("byteCount of 9 bits", 2, fresh.byteCount());
        Check.same("byteAt of 9 bits", 0b01101100, fresh.byteAt(0));
        Check.same("byteAt of 9 bits", 0b10000000, fresh.byteAt(1));
    }

    private static void manyBits() {
        LzwCodec codec = Check.loaded("lzw 26 8 freeze 90;symbols " + "zyxwvutsrqponmlkjihgfedcba".repeat(2) + ";");
        StringBuilder due = new StringBuilder();
        for (int i = 0; i < codec.writtenCount(); i++) {
            String digits = Integer.toBinaryString(codec.writtenCode(i));
            due.append("0".repeat(codec.writtenWidth(i) - digits.length())).append(digits);
        }
        Check.same("many bits", due.toString(), Check.bitsOf(codec));
        Check.same("many bits: count", due.length(), codec.bitCount());
        due.append("0".repeat((8 - due.length() % 8) % 8));
        Check.same("many bytes: count", due.length() / 8, codec.byteCount());
        for (int i = 0; i < codec.byteCount(); i++) {
            int value = Integer.parseInt(due.substring(8 * i, 8 * i + 8), 2);
            Check.same("many bytes: " + i, value, codec.byteAt(i));
        }
    }

    private static void since(String what, LzwCodec codec, int clears, int codes, int symbols, int bits) {
        Check.same(what + ": clearCount", clears, codec.clearCount());
        Check.same(what + ": codesSinceClear", codes, codec.codesSinceClear());
        Check.same(what + ": symbolsSinceClear", symbols, codec.symbolsSinceClear());
        Check.same(what + ": bitsSinceClear", bits, codec.bitsSinceClear());
    }

    private static void sinceClear() {
        LzwCodec codec = example();
        since("start", codec, 0, 6, 8, 16);
        codec.flush();
        since("flush", codec, 1, 0, 0, 0);
        codec.encode(1);
        since("flush, b", codec, 1, 0, 0, 0);
        codec.encode(1);
        since("flush, bb", codec, 1, 1, 1, 2);
        codec.flush();
        since("two flushes", codec, 2, 0, 0, 0);
        codec.restart();
        since("restart", codec, 0, 0, 0, 0);
        since("new", new LzwCodec(), 0, 0, 0, 0);
        LzwCodec reset = Check.loaded("lzw 2 3 reset 90;symbols abaabbbaab;");
        since("reset", reset, 1, 1, 1, 2);
        Check.same("reset: percent", 200, reset.percentSinceClear());
        Check.same("reset: all codes", 8, reset.writtenCount());
    }

    private static void percent() {
        Check.same("percent of nothing", 0, new LzwCodec().percentSinceClear());
        LzwCodec codec = example();
        Check.same("percent", 200, codec.percentSinceClear());
        codec.encode(0);
        Check.same("percent rounded down", 172, codec.percentSinceClear());
        codec.flush();
        Check.same("percent after clearing", 0, codec.percentSinceClear());
        Check.same("percent of the plain size", 85,
                Check.loaded("lzw 4 4 reset 90;symbols abababac;").percentSinceClear());
    }

    private static void saved() {
        Check.same("savedBits of nothing", 0, new LzwCodec().savedBits());
        LzwCodec codec = example();
        Check.same("savedBits negative", 8 - 16, codec.savedBits());
        codec.flush();
        Check.same("savedBits with a clear code", 11 - 22, codec.savedBits());
        codec.encode(0);
        Check.same("savedBits without the current phrase", 11 - 22, codec.savedBits());
        Check.same("savedBits", 2, Check.loaded("lzw 4 4 reset 90;symbols abababac;").savedBits());
    }

    private static void bitsPerSymbol() {
        LzwCodec codec = example();
        Check.same("bitsPerSymbol", 2.0, codec.bitsPerSymbol());
        codec.encode(0);
        Check.same("bitsPerSymbol", 19.0 / 11.0, codec.bitsPerSymbol());
        codec.flush();
        Check.same("bitsPerSymbol, clear codes too", 25.0 / 12.0, codec.bitsPerSymbol());
        codec.restart();
        Check.same("bitsPerSymbol of nothing", 0.0, codec.bitsPerSymbol());
        codec.encode(0);
        Check.same("bitsPerSymbol of nothing written", 0.0, codec.bitsPerSymbol());
        codec.encode(1);
        Check.same("bitsPerSymbol of one symbol", 2.0, codec.bitsPerSymbol());
    }

    private static void fillShare() {
        Check.same("fillShare", 0.3125, new LzwCodec().fillShare());
        Check.same("fillShare of a full one", 1.0, example().fillShare());
        Check.same("fillShare", 27.0f / 256.0f, Check.loaded("lzw 26 8 reset 90;").fillShare());
        Check.same("fillShare", 0.375, Check.loaded("lzw 2 3 reset 90;").fillShare());
    }

    /** A flush behind each symbol writes the most codes that there can be. */
    private static void mostCodes() {
        LzwCodec codec = Check.loaded("lzw 26 8 reset 90;");
        for (int i = 0; i < 240; i++) {
            codec.encode(i % 26);
            codec.flush();
        }
        Check.same("most codes", 480, codec.writtenCount());
        Check.same("most codes: bits", 2400, codec.bitCount());
        Check.same("most codes: clear codes", 240, codec.clearCount());
        Check.same("most codes: the last", 26, codec.writtenCode(479));
        Check.same("most codes: restored", 240, codec.restoredCount());
        Check.same("most codes: restored", true, codec.isRestored());
    }
}

import java.util.function.ToIntBiFunction;
import java.util.function.ToIntFunction;

/** Promises 38 to 54: what was encoded and written, and the ratios. */
final class WrittenEdges {
    private static final String INDEX = "IndexOutOfBoundsException";

    private WrittenEdges() {
    }

    static void all() {
        encoded();
        written();
        bits();
        sinceClear();
        ratios();
    }

    /** A call that takes an index takes 0 to the count minus 1, and no other. */
    private static void takesIndices(ToIntFunction<LzwCodec> count, ToIntBiFunction<LzwCodec, Integer> call) {
        Scene busy = Examples.busy();
        int end = busy.ask(count);
        busy.takes("the first", codec -> call.applyAsInt(codec, 0));
        busy.takes("the last", codec -> call.applyAsInt(codec, end - 1));
        busy.refuses("behind the last", Examples.INDEX, codec -> call.applyAsInt(codec, end));
        busy.refuses("before the first", Examples.INDEX, codec -> call.applyAsInt(codec, -1));
        for (int index : Examples.farNumbers()) {
            busy.refuses(String.valueOf(index), Examples.INDEX, codec -> call.applyAsInt(codec, index));
        }
        Scene.fresh().refuses("the first of none", Examples.INDEX, codec -> call.applyAsInt(codec, 0));
        busy.then(LzwCodec::restart).refuses("begun anew", Examples.INDEX, codec -> call.applyAsInt(codec, 0));
        Scene less = busy.then(codec -> Check.encodeText(codec, "aab")).then(LzwCodec::flush);
        less.takes("more of them", codec -> call.applyAsInt(codec, end));
        less.then(LzwCodec::undo).then(LzwCodec::undo)
                .refuses("undone", Examples.INDEX, codec -> call.applyAsInt(codec, end));
    }

    /** 400 symbols that are all written as codes of one symbol, with a clear code behind each: the most there can be. */
    private static Scene most(int symbols) {
        return Scene.of("lzw 26 5 reset 90;", Examples.differentPairs(26, symbols));
    }

    // ---- encoded symbols

    private static void encoded() {
        Sentences.returns(38, "0 to 400.", WrittenEdges::encodedCount);
        Sentences.returns(39, "the symbol.", WrittenEdges::encodedSymbol);
        Sentences.refuses(39, INDEX, "if there is no such symbol",
                () -> takesIndices(LzwCodec::encodedCount, LzwCodec::encodedSymbol));
    }

    private static void encodedCount() {
        Scene.fresh().answers("none", 0, LzwCodec::encodedCount);
        Scene.fresh().then(codec -> codec.encode(0)).answers("one", 1, LzwCodec::encodedCount);
        most(399).answers("399", 399, LzwCodec::encodedCount);
        most(400).answers("400", 400, LzwCodec::encodedCount);
        most(400).trying(codec -> codec.encode(0)).answers("401 are refused", 400, LzwCodec::encodedCount);
        most(400).then(LzwCodec::flush).answers("flushed", 400, LzwCodec::encodedCount);
        most(400).then(LzwCodec::restart).answers("begun anew", 0, LzwCodec::encodedCount);
    }

    private static void encodedSymbol() {
        Scene scene = most(400);
        String letters = Examples.differentPairs(26, 400);
        for (int i = 0; i < 400; i++) {
            int index = i;
            Check.same("symbol " + i, letters.charAt(i) - 'a', scene.ask(codec -> codec.encodedSymbol(index)));
        }
        LzwCodec codec = scene.make();
        Check.fails("symbol 400", Examples.INDEX, () -> codec.encodedSymbol(400));
    }

    // ---- written codes

    private static void written() {
        Sentences.returns(40, "the number of codes.", WrittenEdges::writtenCount);
        Sentences.returns(41, "the code.", WrittenEdges::writtenCode);
        Sentences.refuses(41, INDEX, "if there is no such code",
                () -> takesIndices(LzwCodec::writtenCount, LzwCodec::writtenCode));
        Sentences.returns(42, "the number of bits.", WrittenEdges::writtenWidth);
        Sentences.refuses(42, INDEX, "if there is no such code",
                () -> takesIndices(LzwCodec::writtenCount, LzwCodec::writtenWidth));
        Sentences.returns(43, "the sum of the widths of all written codes.", WrittenEdges::bitCount);
    }

    private static void writtenCount() {
        Scene.fresh().answers("none", 0, LzwCodec::writtenCount);
        Scene.fresh().then(codec -> codec.encode(0)).answers("none of one symbol", 0, LzwCodec::writtenCount);
        Scene.of("lzw 4 4 reset 90;", "ab").answers("one of two", 1, LzwCodec::writtenCount);
        Scene.of("lzw 4 4 reset 90;", "ab").then(LzwCodec::flush).answers("clear codes too", 3, LzwCodec::writtenCount);
        // 27 of 32 codes at first: five codes fill the dictionary, the sixth is followed by a clear code.
        most(400).answers("of 400 symbols", 399 + 399 / 6, LzwCodec::writtenCount);
        most(400).then(LzwCodec::flush).answers("and flushed", 399 + 399 / 6 + 2, LzwCodec::writtenCount);
    }

    private static void writtenCode() {
        Scene scene = most(400);
        String letters = Examples.differentPairs(26, 400);
        int index = 0;
        for (int i = 0; i < 399; i++) {
            int place = index;
            Check.same("symbol " + i, letters.charAt(i) - 'a', scene.ask(codec -> codec.writtenCode(place)));
            index++;
            if (i % 6 == 5) {
                Check.same("the clear code", 26, scene.ask(codec -> codec.writtenCode(place + 1)));
                index++;
            }
        }
        Check.same("codes", index, scene.ask(LzwCodec::writtenCount));
        Scene full = Scene.of("lzw 2 3 freeze 90;", "abaabbbba");
        full.answers("the last code of a full dictionary", 7, codec -> codec.writtenCode(codec.writtenCount() - 1));
    }

    private static void writtenWidth() {
        Scene scene = Scene.of("lzw 2 3 reset 90;", "abaabbbaa").then(LzwCodec::flush);
        int[] due = {2, 2, 3, 3, 3, 3, 3, 2, 2};
        for (int i = 0; i < due.length; i++) {
            int index = i;
            scene.answers("code " + i, due[i], codec -> codec.writtenWidth(index));
        }
        Scene widest = Scene.of("lzw 16 8 freeze 90;", Examples.differentPairs(16, 241));
        widest.answers("the first one", 5, codec -> codec.writtenWidth(0));
        widest.answers("the last one", 8, codec -> codec.writtenWidth(239));
    }

    private static void bitCount() {
        Scene.fresh().answers("none", 0, LzwCodec::bitCount);
        Scene.of("lzw 2 3 reset 90;", "ab").answers("of one code", 2, LzwCodec::bitCount);
        Scene scene = Scene.of("lzw 2 3 reset 90;", "abaabbbaa");
        scene.answers("with a clear code", 2 + 2 + 3 + 3 + 3 + 3 + 3, LzwCodec::bitCount);
        scene.then(LzwCodec::flush).answers("flushed", 19 + 2 + 2, LzwCodec::bitCount);
        most(400).answers("of 465 codes", 5 * 465, LzwCodec::bitCount);
    }

    // ---- bits and bytes

    private static void bits() {
        Sentences.returns(44, "0 or 1.", WrittenEdges::bitAt);
        Sentences.refuses(44, INDEX, "if there is no such bit", () -> takesIndices(LzwCodec::bitCount, LzwCodec::bitAt));
        Sentences.returns(45, "the number of bits divided by 8, rounded up.", WrittenEdges::byteCount);
        Sentences.holds("Promise 46", "the first bit in its most significant place; the last byte is filled up with 0.",
                WrittenEdges::lastByte);
        Sentences.returns(46, "0 to 255.", WrittenEdges::byteAt);
        Sentences.refuses(46, INDEX, "if there is no such byte", () -> takesIndices(LzwCodec::byteCount, LzwCodec::byteAt));
    }

    private static String bitsOf(Scene scene) {
        StringBuilder bits = new StringBuilder();
        int count = scene.ask(LzwCodec::bitCount);
        for (int i = 0; i < count; i++) {
            int index = i;
            bits.append(scene.ask(codec -> codec.bitAt(index)));
        }
        return bits.toString();
    }

    private static void bitAt() {
        Check.same("of code 1 in 2 bits", "01", bitsOf(Scene.of("lzw 2 3 reset 90;", "ba")));
        Check.same("of code 1 in 3 bits", "001", bitsOf(Scene.of("lzw 4 3 reset 90;", "ba")));
        Check.same("of code 3 in 3 bits", "011", bitsOf(Scene.of("lzw 4 3 reset 90;", "da")));
        Check.same("of codes 0, 1, 0, 3", "0001000011", bitsOf(Scene.of("lzw 2 3 reset 90;", "abaabb")));
        Scene widest = Scene.of("lzw 16 8 freeze 90;", Examples.differentPairs(16, 241));
        StringBuilder due = new StringBuilder();
        for (String code : widest.written().split(" ")) {
            String[] parts = code.split("/");
            String digits = Integer.toBinaryString(Integer.parseInt(parts[0]));
            due.append("0".repeat(Integer.parseInt(parts[1]) - digits.length())).append(digits);
        }
        Check.same("of many codes", due.toString(), bitsOf(widest));
    }

    private static void byteCount() {
        Scene.fresh().answers("of 0 bits", 0, LzwCodec::byteCount);
        // Codes of 2 bits, then of 3: 2, 4, 7, 10 .. bits; an alphabet of 4 gives 3, 6, 9 .., one of 26 gives 5, 10 ...
        String[] setups = {"lzw 2 3 freeze 90;", "lzw 4 3 freeze 90;", "lzw 26 5 freeze 90;", "lzw 8 4 freeze 90;"};
        boolean[] seen = new boolean[8];
        for (String setup : setups) {
            for (int symbols = 2; symbols <= 20; symbols++) {
                String letters = "abaabbbaabbabaaabbab".substring(0, symbols);
                Scene scene = Scene.of(setup, letters);
                int bits = scene.ask(LzwCodec::bitCount);
                int due = bits % 8 == 0 ? bits / 8 : bits / 8 + 1;
                scene.answers("of " + bits + " bits", due, LzwCodec::byteCount);
                seen[bits % 8] = true;
            }
        }
        for (int rest = 0; rest < 8; rest++) {
            Check.same("a rest of " + rest + " bits was tested", true, seen[rest]);
        }
    }

    private static void lastByte() {
        Scene.of("lzw 2 3 freeze 90;", "ba").answers("of 01", 0b01000000, codec -> codec.byteAt(0));
        Scene.of("lzw 4 3 freeze 90;", "da").answers("of 011", 0b01100000, codec -> codec.byteAt(0));
        Scene eight = Scene.of("lzw 7 4 freeze 90;", "gf").then(LzwCodec::flush);
        eight.answers("bits", 3 + 4 + 4, LzwCodec::bitCount);
        eight.answers("of 110 0101 0111", 0b11001010, codec -> codec.byteAt(0));
        eight.answers("the last byte of 11 bits", 0b11100000, codec -> codec.byteAt(1));
        Scene sixteen = Scene.of("lzw 2 3 freeze 90;", "abaabbbaabb");
        sixteen.answers("bits", 16, LzwCodec::bitCount);
        sixteen.answers("the last byte of 16 bits", 0b11001100, codec -> codec.byteAt(1));
        sixteen.refuses("the one behind it", Examples.INDEX, codec -> codec.byteAt(2));
    }

    private static void byteAt() {
        Scene.of("lzw 2 3 freeze 90;", "ab").answers("the least", 0, codec -> codec.byteAt(0));
        // The codes 5 7 7 7 7 7 of 3 bits.
        Scene ones = Scene.of("lzw 6 3 freeze 90;", Examples.repeated('f', 12));
        ones.answers("10111111", 0b10111111, codec -> codec.byteAt(0));
        ones.answers("the greatest", 255, codec -> codec.byteAt(1));
        ones.answers("11 and no more", 0b11000000, codec -> codec.byteAt(2));
        Scene scene = Scene.of("lzw 16 8 freeze 90;", Examples.differentPairs(16, 241));
        String bits = bitsOf(scene);
        String padded = bits + "0".repeat((8 - bits.length() % 8) % 8);
        for (int i = 0; i < padded.length() / 8; i++) {
            int index = i;
            int due = Integer.parseInt(padded.substring(8 * i, 8 * i + 8), 2);
            Check.same("byte " + i, due, scene.ask(codec -> codec.byteAt(index)));
        }
    }

    // ---- since the latest clear code

    private static void sinceClear() {
        Sentences.returns(47, "the number of clear codes.", WrittenEdges::clearCount);
        Sentences.returns(48, "the number of codes, the clear code itself not included.", WrittenEdges::codesSinceClear);
        Sentences.returns(49, "the sum of the lengths of their phrases.", WrittenEdges::symbolsSinceClear);
        Sentences.returns(50, "the sum of their widths.", WrittenEdges::bitsSinceClear);
    }

    private static Scene cleared() {
        return Scene.of("lzw 2 3 reset 90;", "abaabbbaa");
    }

    private static void sinceClear(ToIntFunction<LzwCodec> call, int full, int one) {
        Scene.fresh().answers("at first", 0, call);
        Scene.fresh().then(codec -> codec.encode(0)).answers("nothing written", 0, call);
        Scene.of("lzw 2 3 reset 90;", "abaabbba").answers("since the start", full, call);
        cleared().answers("just cleared", 0, call);
        cleared().then(codec -> codec.encode(1)).answers("one code behind the clear code", one, call);
        cleared().then(LzwCodec::flush).answers("flushed", 0, call);
        cleared().then(LzwCodec::flush).then(LzwCodec::flush).answers("flushed twice", 0, call);
        cleared().then(codec -> codec.encode(1)).then(LzwCodec::restart).answers("begun anew", 0, call);
        cleared().then(LzwCodec::undo).answers("undone", 0, call);
    }

    private static void clearCount() {
        Scene.fresh().answers("at first", 0, LzwCodec::clearCount);
        cleared().answers("one", 1, LzwCodec::clearCount);
        cleared().then(LzwCodec::flush).answers("with a flush", 2, LzwCodec::clearCount);
        cleared().then(LzwCodec::flush).then(LzwCodec::flush).answers("with an idle flush", 2, LzwCodec::clearCount);
        cleared().then(LzwCodec::restart).answers("begun anew", 0, LzwCodec::clearCount);
        most(400).answers("of 400 symbols", 66, LzwCodec::clearCount);
    }

    private static void codesSinceClear() {
        sinceClear(LzwCodec::codesSinceClear, 5, 1);
    }

    private static void symbolsSinceClear() {
        sinceClear(LzwCodec::symbolsSinceClear, 6, 1);
    }

    private static void bitsSinceClear() {
        sinceClear(LzwCodec::bitsSinceClear, 13, 2);
    }

    // ---- ratios

    private static void ratios() {
        Sentences.returns(51, "100 times bitsSinceClear, divided by symbolsSinceClear times plainWidth, rounded down; 0 if "
                + "symbolsSinceClear is 0.", WrittenEdges::percent);
        Sentences.returns(52, "the number of all symbols covered by written codes times plainWidth, minus bitCount; it may "
                + "be negative.", WrittenEdges::savedBits);
        Sentences.returns(53, "bitCount as a double, divided by the number of all symbols covered by written codes as a "
                + "double; 0 if there are none.", WrittenEdges::bitsPerSymbol);
        Sentences.returns(54, "codeCount as a float, divided by capacity as a float.", WrittenEdges::fillShare);
    }

    private static void percent() {
        Scene.fresh().answers("of no codes", 0, LzwCodec::percentSinceClear);
        Scene.fresh().then(codec -> codec.encode(0)).answers("of a phrase alone", 0, LzwCodec::percentSinceClear);
        Scene.of("lzw 2 3 reset 90;", "ab").answers("200 exactly", 200, LzwCodec::percentSinceClear);
        Scene.of("lzw 2 3 reset 90;", "abaabbba").answers("1300 by 6, 216.7", 216, LzwCodec::percentSinceClear);
        Scene.of("lzw 4 4 reset 90;", "abababac").answers("1200 by 14, 85.7", 85, LzwCodec::percentSinceClear);
        cleared().answers("just cleared", 0, LzwCodec::percentSinceClear);
        cleared().then(codec -> codec.encode(1)).answers("after the clear code", 200, LzwCodec::percentSinceClear);
        cleared().then(LzwCodec::flush).answers("flushed", 0, LzwCodec::percentSinceClear);
    }

    private static void savedBits() {
        Scene.fresh().answers("none", 0, LzwCodec::savedBits);
        Scene.fresh().then(codec -> codec.encode(0)).answers("of a phrase alone", 0, LzwCodec::savedBits);
        Scene.of("lzw 2 3 reset 90;", "ab").answers("negative", -1, LzwCodec::savedBits);
        Scene.of("lzw 4 4 reset 90;", "abababac").answers("positive", 2, LzwCodec::savedBits);
        cleared().answers("the clear code costs bits", 8 - 19, LzwCodec::savedBits);
        cleared().then(codec -> codec.encode(1)).answers("all codes count", 9 - 21, LzwCodec::savedBits);
        cleared().then(LzwCodec::restart).answers("begun anew", 0, LzwCodec::savedBits);
    }

    private static void perSymbol(String what, double due, Scene scene) {
        Check.same(what, due, scene.make().bitsPerSymbol());
    }

    private static void bitsPerSymbol() {
        perSymbol("of none", 0.0, Scene.fresh());
        perSymbol("of a phrase alone", 0.0, Scene.fresh().then(codec -> codec.encode(0)));
        perSymbol("of one", 2.0, Scene.of("lzw 2 3 reset 90;", "ab"));
        perSymbol("a third", 13.0 / 6.0, Scene.of("lzw 2 3 reset 90;", "abaabbba"));
        perSymbol("with clear codes", 19.0 / 8.0, cleared());
        perSymbol("with all codes", 21.0 / 9.0, cleared().then(codec -> codec.encode(1)));
        perSymbol("begun anew", 0.0, cleared().then(LzwCodec::restart));
    }

    private static void fillShare() {
        Check.same("the least", 3.0f / 256.0f, Scene.of("lzw 2 8 reset 90;").make().fillShare());
        Check.same("at first", 0.3125f, new LzwCodec().fillShare());
        Check.same("a third, as a float", 11.0f / 16.0f,
                Scene.of("lzw 4 4 freeze 90;", Examples.differentPairs(4, 7)).make().fillShare());
        Check.same("7 of 8", 0.875f, Scene.of("lzw 2 3 freeze 90;", "abaabb").make().fillShare());
        Check.same("full", 1.0f, Scene.of("lzw 2 3 freeze 90;", "abaabbb").make().fillShare());
        Check.same("cleared", 0.375f, cleared().make().fillShare());
    }
}

import java.util.List;

/** The sentences of "Texts": how setup texts and code lists are read, and what the setup text of a state looks like. */
final class TextEdges {
    private static final String SECTION = "Texts";
    private static final List<String> SETUP = List.of("lzw", "4", "5", "reset", "90", ";", "symbols", "abcd", ";");
    private static final String HEAD = "lzw 2 8 reset 90;symbols ";

    private TextEdges() {
    }

    static void all() {
        Sentences.holds(SECTION, "A word is a maximal run of letters from a to z", TextEdges::words);
        Sentences.holds(SECTION, "a number is a maximal run of 1 to 3 digits", TextEdges::numbers);
        Sentences.holds(SECTION, "and a semicolon is a token of its own.", TextEdges::semicolons);
        Sentences.holds(SECTION, "Spaces (byte 32) and line feeds (byte 10) may stand before, between and after tokens.",
                TextEdges::blanks);
        Sentences.holds(SECTION, "A longer run of digits", TextEdges::longRuns);
        Sentences.holds(SECTION, "and any other byte are not tokens.", TextEdges::otherBytes);
        Sentences.holds(SECTION, "braces mean zero or more repetitions", TextEdges::repetitions);
        Sentences.holds(SECTION, "words in quotes stand for themselves", TextEdges::wordsInQuotes);
        Sentences.holds(SECTION, "The size is the alphabet size, and the width is the greatest width.",
                TextEdges::sizeAndWidth);
        Sentences.holds(SECTION, "Letters is a word whose letters all belong to the alphabet.", TextEdges::letters);
        Sentences.holds(SECTION, "A setup text has at most 400 symbols.", TextEdges::mostSymbols);
        Sentences.holds(SECTION, "A code list may be empty", TextEdges::emptyCodeList);
        Sentences.holds(SECTION, "it describes at most 400 decoded symbols.", TextEdges::mostDecoded);
        Sentences.holds(SECTION, "Parsing stops at the first token that does not fit.", TextEdges::firstError);
        Sentences.holds(SECTION, "The error position is the index of its first byte.", TextEdges::firstByte);
        Sentences.holds(SECTION, "If the text ends too early, the error position is the length of the text.",
                TextEdges::tooEarly);
        unfitTokens();
        setupTexts();
    }

    private static void unfitTokens() {
        Sentences.holds(SECTION, "a number that is out of its range", TextEdges::rangesOfNumbers);
        Sentences.holds(SECTION, "a width with which the capacity would be less than the alphabet size plus 2",
                TextEdges::narrowWidths);
        Sentences.holds(SECTION, "a word of letters with another letter", TextEdges::otherLetters);
        Sentences.holds(SECTION, "or with which there would be more than 400 symbols", TextEdges::tooManySymbols);
        Sentences.holds(SECTION, "a code that is not valid for the decoder at its place", TextEdges::wrongCodes);
        Sentences.holds(SECTION, "or with which there would be more than 400 decoded symbols",
                TextEdges::tooManyDecoded);
    }

    private static void setupTexts() {
        Sentences.holds(SECTION, "The setup text that describes a state contains the settings and, if there are any "
                + "encoded symbols, one statement with all of them", TextEdges::oneStatement);
        Sentences.holds(SECTION, "it does not tell where the encoder was flushed.", TextEdges::noFlush);
        Sentences.holds(SECTION, "Tokens are separated by one space, but there is no space before a semicolon, and "
                + "nothing stands between a semicolon and the next token.", TextEdges::spacesOfSetup);
        Sentences.holds(SECTION, "Numbers have no leading zeros.", TextEdges::noLeadingZeros);
    }

    private static void loads(String text, String setup) {
        LzwCodec codec = new LzwCodec();
        Check.type(codec, text);
        codec.load();
        Check.same("\"" + text + "\"", setup, Check.setupOf(codec));
        Check.same("\"" + text + "\", error", -1, codec.errorPosition());
    }

    private static void unloadable(String text, int error) {
        Scene.fresh().refusesText(text, error, LzwCodec::load);
    }

    private static void decodes(String codes, String symbols) {
        LzwCodec codec = new LzwCodec();
        Check.decodeText(codec, codes);
        Check.same("\"" + codes + "\"", symbols, Check.decodedOf(codec));
        Check.same("\"" + codes + "\", error", -1, codec.errorPosition());
    }

    private static void undecodable(String codes, int error) {
        Scene.fresh().refusesText(codes, error, LzwCodec::decode);
    }

    // ---- tokens

    private static void words() {
        loads("lzw 26 8 reset 90;symbols az;", "lzw 26 8 reset 90;symbols az;");
        for (char sign : new char[] {'`', '{', 'A', 'Z', '@', '['}) {
            unloadable("lzw 26 8 reset 90;symbols a" + sign + ";", 27);
            unloadable("lzw 26 8 reset 90;symbols " + sign + "a;", 26);
        }
        // A maximal run: no word ends where it would fit.
        unloadable("lzwa 4 4 reset 90;", 0);
        unloadable("lzw 4 4 resetx 90;", 8);
        unloadable("lzw 4 4 reset 90;symbolsab;", 17);
        loads("lzw4 4reset90;symbols\nab;", "lzw 4 4 reset 90;symbols ab;");
    }

    private static void numbers() {
        decodes("3", "d");
        decodes("03", "d");
        decodes("003", "d");
        undecodable("0003", 0);
        undecodable("0 0003", 2);
        undecodable("/", 0);
        undecodable(":", 0);
        // A maximal run: 1 and 1 without a gap are 11.
        undecodable("11", 0);
        decodes("1 1", "bb");
        loads("lzw 004 004 reset 200;", "lzw 4 4 reset 200;");
        loads("lzw 9 8 reset 90;", "lzw 9 8 reset 90;");
    }

    private static void semicolons() {
        loads("lzw 4 4 reset 90;symbols a;symbols b;", "lzw 4 4 reset 90;symbols ab;");
        loads("lzw 4 4 reset 90 ; symbols a ; symbols b ;", "lzw 4 4 reset 90;symbols ab;");
        unloadable("lzw 4 4 reset 90;;", 17);
        unloadable("lzw 4 4 reset 90;symbols a;;", 27);
        unloadable(";lzw 4 4 reset 90;", 0);
        undecodable("0;", 1);
        undecodable(";", 0);
    }

    private static void blanks() {
        for (String blank : new String[] {" ", "\n"}) {
            for (String gap : new String[] {blank, blank + blank, " \n " + blank}) {
                loads(gap + String.join(gap, SETUP) + gap, "lzw 4 5 reset 90;symbols abcd;");
                decodes(gap + "0" + gap + "1" + gap, "ab");
                decodes(gap, "");
            }
        }
        loads("lzw" + " ".repeat(770) + "4 4 reset 90;", "lzw 4 4 reset 90;");
        decodes("\n".repeat(799) + "0", "a");
        decodes("0" + "\n".repeat(799), "a");
        decodes(" ".repeat(800), "");
    }

    private static void longRuns() {
        decodes("000", "a");
        undecodable("0000", 0);
        undecodable("1 00000", 2);
        undecodable("0".repeat(800), 0);
        loads("lzw 004 004 reset 090;", "lzw 4 4 reset 90;");
        unloadable("lzw 0004 4 reset 90;", 4);
        unloadable("lzw 4 0004 reset 90;", 6);
        unloadable("lzw 4 4 reset 0090;", 14);
        unloadable("lzw 4 4 reset 90;symbols 0000;", 25);
    }

    private static void otherBytes() {
        for (int i = 0; i < 256; i++) {
            char sign = (char) i;
            boolean isBlank = sign == 32 || sign == 10;
            boolean isDigit = sign >= '0' && sign <= '9';
            if (isBlank) {
                decodes("0" + sign + "1", "ab");
                loads("lzw" + sign + "4 4 reset 90;", "lzw 4 4 reset 90;");
            } else if (!isDigit) {
                undecodable("0" + sign + "1", 1);
                boolean isLetter = sign >= 'a' && sign <= 'z';
                unloadable("lzw" + sign + "4 4 reset 90;", isLetter ? 0 : 3);
                unloadable("lzw 4 4 reset 90;" + sign, 17);
            }
        }
    }

    // ---- the grammar

    private static void repetitions() {
        loads("lzw 2 3 reset 90;", "lzw 2 3 reset 90;");
        loads("lzw 2 3 reset 90;symbols a;", "lzw 2 3 reset 90;symbols a;");
        loads("lzw 2 3 reset 90;" + "symbols b;".repeat(78), "lzw 2 3 reset 90;symbols " + "b".repeat(78) + ";");
        unloadable("lzw 2 3 reset 90;lzw 2 3 reset 90;", 17);
        decodes("", "");
        decodes("0", "a");
        decodes("0 ".repeat(400), "a".repeat(400));
    }

    private static void wordsInQuotes() {
        for (String policy : new String[] {"freeze", "reset", "watch"}) {
            loads("lzw 4 4 " + policy + " 90;", "lzw 4 4 " + policy + " 90;");
            unloadable("lzw 4 4 " + policy.substring(1) + " 90;", 8);
            unloadable("lzw 4 4 " + policy.substring(0, policy.length() - 1) + " 90;", 8);
            unloadable("lzw 4 4 " + policy + "e 90;", 8);
            unloadable("lzw 4 4 " + policy.replace('e', 'a').replace('t', 'd') + " 90;", 8);
        }
        for (String word : new String[] {"lz", "zw", "lzx", "azw", "law", "lzww", "l zw"}) {
            unloadable(word + " 4 4 reset 90;", 0);
        }
        for (String word : new String[] {"symbol", "ymbols", "symbolz", "aymbols", "symbolss", "lzw", "reset"}) {
            unloadable("lzw 4 4 reset 90;" + word + " a;", 17);
        }
        // As letters they are letters like others.
        loads("lzw 26 5 reset 90;symbols symbols;", "lzw 26 5 reset 90;symbols symbols;");
    }

    private static void sizeAndWidth() {
        LzwCodec codec = Check.loaded("lzw 5 6 reset 90;");
        Check.same("size", 5, codec.alphabetSize());
        Check.same("width", 6, codec.greatestWidth());
        LzwCodec other = Check.loaded("lzw 6 5 reset 90;");
        Check.same("size", 6, other.alphabetSize());
        Check.same("width", 5, other.greatestWidth());
    }

    private static void letters() {
        for (int size = 2; size < 26; size++) {
            char last = (char) ('a' + size - 1);
            String setup = "lzw " + size + " 8 freeze 1;";
            loads(setup + "symbols a" + last + ";", setup + "symbols a" + last + ";");
            unloadable(setup + "symbols a" + (char) (last + 1) + ";", setup.length() + 8);
        }
        unloadable("lzw 4 4 reset 90;symbols ;", 25);
        unloadable("lzw 4 4 reset 90;symbols 1;", 25);
        unloadable("lzw 4 4 reset 90;symbols a b;", 27);
    }

    private static void mostSymbols() {
        loads(HEAD + "ab".repeat(200) + ";", HEAD + "ab".repeat(200) + ";");
        unloadable(HEAD + "ab".repeat(200) + "a;", HEAD.length());
        loads(HEAD + "a".repeat(399) + ";symbols b;", HEAD + "a".repeat(399) + "b;");
        unloadable(HEAD + "a".repeat(399) + ";symbols bb;", HEAD.length() + 408);
        unloadable(HEAD + "a".repeat(400) + ";symbols b;", HEAD.length() + 409);
    }

    private static void emptyCodeList() {
        LzwCodec codec = new LzwCodec();
        Check.decodeText(codec, "0");
        Check.same("empty", 0, Check.decodeText(codec, ""));
        Check.same("empty, no error", -1, codec.errorPosition());
        Check.same("empty, the decoded text", 0, codec.decodedCount());
        Check.same("blanks", 0, Check.decodeText(codec, " \n"));
        unloadable("", 0);
    }

    private static void mostDecoded() {
        decodes("1\n".repeat(400), "b".repeat(400));
        undecodable("1\n".repeat(398) + "1 5 ", 798);
        Scene wide = Scene.of("lzw 2 8 reset 90;");
        // 378 symbols, and then the code of 22 or 23 of them.
        String codes = Examples.growingCodes(27);
        wide.answers("399 symbols", 399, codec -> Check.decodeText(codec, codes + " 22"));
        wide.answers("400 symbols", 400, codec -> Check.decodeText(codec, codes + " 23"));
        wide.refusesText(codes + " 24", codes.length() + 1, LzwCodec::decode);
        wide.answers("400 symbols and a clear code", 400, codec -> Check.decodeText(codec, codes + " 23 2 2"));
        wide.refusesText(codes + " 23 2 0", codes.length() + 6, LzwCodec::decode);
        wide.refusesText(codes + " 23 0", codes.length() + 4, LzwCodec::decode);
    }

    // ---- error positions

    private static void firstError() {
        unloadable("lzw 1 9 fresh 0 ~", 4);
        unloadable("lzw 4 9 fresh 0 ~", 6);
        unloadable("lzw 4 4 fresh 0 ~", 8);
        unloadable("lzw 4 4 reset 0 ~", 14);
        unloadable("lzw 4 4 reset 1 ~", 16);
        unloadable("lzw 4 4 reset 1;~ 7", 16);
        unloadable("~ lzw 4 4 reset 1;", 0);
        undecodable("7 9 ~", 0);
        undecodable("0 9 ~", 2);
        undecodable("0 1 ~ 9", 4);
    }

    private static void firstByte() {
        String wrong = "~";
        for (int i = 0; i < SETUP.size(); i++) {
            for (String gap : new String[] {" ", " \n  "}) {
                String before = String.join(gap, SETUP.subList(0, i)) + (i == 0 ? "" : gap);
                String after = gap + String.join(gap, SETUP.subList(i + 1, SETUP.size()));
                unloadable(before + wrong + after, before.length());
                // A token of the right kind that does not fit, longer than one byte.
                String other = SETUP.get(i).matches("[a-z]+") ? "zzzzz" : "999";
                unloadable(before + other + after, before.length());
            }
        }
        undecodable("0  999", 3);
        undecodable("\n\n000999", 2);
        undecodable("0 1 lzw", 4);
    }

    private static void tooEarly() {
        for (int i = 0; i < SETUP.size(); i++) {
            if (i == 6) {
                continue;
            }
            for (String end : new String[] {"", " ", "\n", " \n "}) {
                String text = String.join(" ", SETUP.subList(0, i)) + end;
                unloadable(text, text.length());
            }
        }
        unloadable("lzw" + " ".repeat(797), 800);
        unloadable(" ".repeat(800), 800);
        unloadable(" ".repeat(797) + "lzw", 800);
    }

    // ---- tokens that do not fit

    private static void rangesOfNumbers() {
        loads("lzw 2 3 reset 1;", "lzw 2 3 reset 1;");
        loads("lzw 26 8 reset 200;", "lzw 26 8 reset 200;");
        unloadable("lzw 1 3 reset 1;", 4);
        unloadable("lzw 27 8 reset 200;", 4);
        unloadable("lzw 2 2 reset 1;", 6);
        unloadable("lzw 26 9 reset 200;", 7);
        unloadable("lzw 2 3 reset 0;", 14);
        unloadable("lzw 26 8 reset 201;", 15);
        unloadable("lzw 2 3 reset 000;", 14);
    }

    private static void narrowWidths() {
        int[] most = {6, 14};
        for (int width = 3; width <= 4; width++) {
            for (int size = 2; size <= 26; size++) {
                String setup = "lzw " + size + " " + width + " reset 90;";
                if (size <= most[width - 3]) {
                    loads(setup, setup);
                } else {
                    unloadable(setup, size < 10 ? 6 : 7);
                }
            }
        }
        loads("lzw 26 5 reset 90;", "lzw 26 5 reset 90;");
    }

    private static void otherLetters() {
        unloadable("lzw 3 4 reset 90;symbols abcd;", 25);
        unloadable("lzw 3 4 reset 90;symbols dabc;", 25);
        unloadable("lzw 3 4 reset 90;symbols z;", 25);
        unloadable("lzw 3 4 reset 90;symbols abc;symbols abcd;", 37);
        loads("lzw 3 4 reset 90;symbols abc;symbols cba;", "lzw 3 4 reset 90;symbols abccba;");
    }

    private static void tooManySymbols() {
        loads(HEAD + "a".repeat(200) + ";symbols " + "b".repeat(200) + ";",
                HEAD + "a".repeat(200) + "b".repeat(200) + ";");
        unloadable(HEAD + "a".repeat(200) + ";symbols " + "b".repeat(201) + ";", HEAD.length() + 209);
        unloadable(HEAD + "a".repeat(401) + ";", HEAD.length());
        unloadable(HEAD + "a".repeat(775), HEAD.length());
    }

    private static void wrongCodes() {
        decodes("0 5", "aaa");
        undecodable("0 6", 2);
        undecodable("5", 0);
        undecodable("0 4 5", 4);
        undecodable("0 999", 2);
        undecodable("0 1 2 8", 6);
        decodes("0 1 2 7", "abccc");
    }

    private static void tooManyDecoded() {
        Scene scene = Scene.of("lzw 2 8 freeze 90;");
        // 378 symbols: the next code would have 28 of them, the codes 23 and 24 have 22 and 23.
        String codes = Examples.growingCodes(27);
        scene.answers("22 more", 400, codec -> Check.decodeText(codec, codes + " 23"));
        scene.refusesText(codes + " 24", codes.length() + 1, LzwCodec::decode);
        scene.refusesText(codes + " 29", codes.length() + 1, LzwCodec::decode);
    }

    // ---- the setup text of a state

    private static void oneStatement() {
        Scene scene = Scene.of("lzw 4 4 watch 5;");
        Check.same("no symbols", "lzw 4 4 watch 5;", scene.setup());
        Check.same("one symbol", "lzw 4 4 watch 5;symbols d;", scene.then(codec -> codec.encode(3)).setup());
        String many = "abcd".repeat(100);
        Check.same("400 symbols", "lzw 4 4 watch 5;symbols " + many + ";",
                scene.then(codec -> Check.encodeText(codec, many)).setup());
        Check.same("of two statements", "lzw 2 3 reset 1;symbols ab;",
                Scene.of("lzw 2 3 reset 1;symbols a;symbols b;").setup());
        Check.same("no more symbols", "lzw 4 4 watch 5;",
                scene.then(codec -> codec.encode(3)).then(LzwCodec::restart).setup());
    }

    private static void noFlush() {
        Scene scene = Scene.of("lzw 4 4 watch 5;", "ab").then(LzwCodec::flush).then(codec -> codec.encode(2));
        Check.same("flushed between", "lzw 4 4 watch 5;symbols abc;", scene.setup());
        Check.same("flushed at the end", "lzw 4 4 watch 5;symbols abc;", scene.then(LzwCodec::flush).setup());
        Check.same("flushed at first", "lzw 4 4 reset 90;", Scene.fresh().then(LzwCodec::flush).setup());
    }

    private static void spacesOfSetup() {
        for (String gap : new String[] {" ", "\n", "  \n "}) {
            Check.same("gaps", "lzw 4 5 reset 90;symbols abcd;", Scene.of(String.join(gap, SETUP) + gap).setup());
        }
        Check.same("no statement", "lzw 4 5 reset 90;", Scene.of(" lzw 4 5 reset 90 ; ").setup());
    }

    private static void noLeadingZeros() {
        Check.same("of one digit", "lzw 2 3 reset 1;", Scene.of("lzw 002 003 reset 001;").setup());
        Check.same("of two digits", "lzw 26 8 reset 10;", Scene.of("lzw 026 8 reset 010;").setup());
        for (int percent : new int[] {1, 9, 10, 11, 99, 100, 101, 109, 110, 199, 200}) {
            Scene scene = Scene.fresh().then(codec -> codec.setLimit(percent));
            Check.same("limit", "lzw 4 4 reset " + percent + ";", scene.setup());
        }
    }
}

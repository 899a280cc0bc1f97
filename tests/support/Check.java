/** Counts answers that are not as due, and puts texts on a tape. */
final class Check {
    interface Call {
        void run();
    }

    private static int checks = 0;
    private static int wrong = 0;
    private static String place = "";

    private Check() {
    }

    /** What the checks from now on are about; a wrong answer is told with it. */
    static void place(String what) {
        place = what.isEmpty() ? "" : what + ": ";
    }

    static int checks() {
        return checks;
    }

    static void same(String what, long due, long got) {
        checks++;
        if (due != got) {
            report(what, Long.toString(due), Long.toString(got));
        }
    }

    static void same(String what, boolean due, boolean got) {
        same(what, due ? 1 : 0, got ? 1 : 0);
    }

    static void same(String what, String due, String got) {
        checks++;
        if (!due.equals(got)) {
            report(what, due, got);
        }
    }

    /** Doubles by their bits, as the document tells each of them exactly. */
    static void same(String what, double due, double got) {
        checks++;
        if (Double.doubleToLongBits(due) != Double.doubleToLongBits(got)) {
            report(what, Double.toString(due), Double.toString(got));
        }
    }

    /** The exception must be just the one that is due, not one of a class below it. */
    static void fails(String what, Class<? extends RuntimeException> due, Call call) {
        checks++;
        Class<?> got = null;
        try {
            call.run();
        } catch (RuntimeException e) {
            got = e.getClass();
        }
        if (got != due) {
            report(what, due.getName(), got == null ? "no exception" : got.getName());
        }
    }

    private static void report(String what, String due, String got) {
        wrong++;
        if (wrong <= 50) {
            System.out.println(place + what + ": due is " + due + ", answered " + got);
        }
    }

    static void finish() {
        System.out.println(checks + " checks, " + wrong + " wrong");
        if (wrong != 0 || checks == 0) {
            System.exit(1);
        }
    }

    /** Appends a text of signs 0 to 255 to the tape; it has room for the blanks that fill up the last call. */
    static void type(LzwCodec codec, String text) {
        for (int from = 0; from < text.length(); from += 20) {
            codec.append(wordAt(text, from), wordAt(text, from + 4), wordAt(text, from + 8),
                    wordAt(text, from + 12), wordAt(text, from + 16));
        }
        codec.truncate((20 - text.length() % 20) % 20);
    }

    static int wordAt(String text, int from) {
        int word = 0;
        for (int i = from; i < from + 4; i++) {
            word = (word << 8) | (i < text.length() ? text.charAt(i) : ' ');
        }
        return word;
    }

    static LzwCodec loaded(String setup) {
        LzwCodec codec = new LzwCodec();
        type(codec, setup);
        codec.load();
        return codec;
    }

    static int encodeText(LzwCodec codec, String letters) {
        type(codec, letters);
        return codec.encodeTape();
    }

    static int decodeText(LzwCodec codec, String codes) {
        type(codec, codes);
        return codec.decode();
    }

    static String setupOf(LzwCodec codec) {
        StringBuilder text = new StringBuilder();
        int count = codec.setupLength();
        for (int i = 0; i < count; i++) {
            text.append((char) codec.setupByte(i));
        }
        return text.toString();
    }

    static String decodedOf(LzwCodec codec) {
        StringBuilder text = new StringBuilder();
        int count = codec.decodedCount();
        for (int i = 0; i < count; i++) {
            text.append((char) ('a' + codec.decodedSymbol(i)));
        }
        return text.toString();
    }

    static String encodedOf(LzwCodec codec) {
        StringBuilder text = new StringBuilder();
        int count = codec.encodedCount();
        for (int i = 0; i < count; i++) {
            text.append((char) ('a' + codec.encodedSymbol(i)));
        }
        return text.toString();
    }

    static String phraseOf(LzwCodec codec, int code) {
        StringBuilder text = new StringBuilder();
        int length = codec.phraseLength(code);
        for (int i = 0; i < length; i++) {
            text.append((char) ('a' + codec.phraseSymbol(code, i)));
        }
        return text.toString();
    }

    /** The written codes with their widths, as in "0/3 5/3". */
    static String writtenOf(LzwCodec codec) {
        StringBuilder text = new StringBuilder();
        int count = codec.writtenCount();
        for (int i = 0; i < count; i++) {
            text.append(i == 0 ? "" : " ").append(codec.writtenCode(i)).append('/').append(codec.writtenWidth(i));
        }
        return text.toString();
    }

    static String bitsOf(LzwCodec codec) {
        StringBuilder text = new StringBuilder();
        int count = codec.bitCount();
        for (int i = 0; i < count; i++) {
            text.append(codec.bitAt(i));
        }
        return text.toString();
    }

    /** The state that undo brings back, in so few calls that a test can look at it several times. */
    static String stateOf(LzwCodec codec) {
        StringBuilder text = new StringBuilder(setupOf(codec));
        int count = codec.codeCount();
        for (int code = codec.clearCode() + 1; code < count; code++) {
            text.append('|').append(codec.prefixOf(code)).append(phraseOf(codec, code));
        }
        text.append('|').append(codec.hasPhrase() ? codec.currentPhrase() : -1);
        text.append('|').append(codec.greatestWidth()).append('|').append(writtenOf(codec));
        text.append('|').append(codec.bitCount()).append(' ').append(codec.clearCount()).append(' ')
                .append(codec.codesSinceClear()).append(' ').append(codec.symbolsSinceClear()).append(' ')
                .append(codec.bitsSinceClear());
        return text.toString();
    }
}

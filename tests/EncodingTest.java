import java.util.NoSuchElementException;

/** Promises 7 to 15: encode, encodeTape, flush, restart, the policy, the limit, saved states and undo. */
public final class EncodingTest {
    private static final Class<IllegalArgumentException> ARGUMENT = IllegalArgumentException.class;
    private static final Class<IllegalStateException> STATE = IllegalStateException.class;

    public static void main(String[] args) {
        encodeBySteps();
        encodeWithReset();
        encodeWithFreeze();
        encodeWithWatch();
        encodeWithoutRoom();
        encodeRefuses();
        encodeTape();
        encodeTapeRefuses();
        flush();
        restart();
        setPolicy();
        setLimit();
        save();
        restore();
        undo();
        undoForgetsTheOldest();
        undoLeaves();
        everyChangeCounts();
        failedCallsAreNoChanges();
        Check.finish();
    }

    private static void encodeBySteps() {
        LzwCodec codec = new LzwCodec();
        int[] symbols = {0, 1, 0, 1, 0, 1, 0, 2};
        int[] codes = {0, 1, 1, 0, 1, 0, 0, 1};
        for (int i = 0; i < symbols.length; i++) {
            Check.same("encode, symbol " + i, codes[i], codec.encode(symbols[i]));
        }
        Check.same("encode: written", "0/3 1/3 5/3 7/3", Check.writtenOf(codec));
        Check.same("encode: code 5", "ab", Check.phraseOf(codec, 5));
        Check.same("encode: code 6", "ba", Check.phraseOf(codec, 6));
        Check.same("encode: code 7", "aba", Check.phraseOf(codec, 7));
        Check.same("encode: code 8", "abac", Check.phraseOf(codec, 8));
        Check.same("encode: phrase", 2, codec.currentPhrase());
        Check.same("encode: the width grows", 4, codec.codeWidth());
        Check.same("encode: codes", 9, codec.codeCount());
    }

    /** Seven symbols fill the dictionary; the code of the phrase "ba" is written with the ninth. */
    private static void encodeWithReset() {
        LzwCodec codec = Check.loaded("lzw 2 3 reset 1;symbols abaabbb;");
        Check.same("reset: full", true, codec.isFull());
        Check.same("reset: no clearing as it gets full", "0/2 1/2 0/3 3/3 1/3", Check.writtenOf(codec));
        Check.same("reset: no clearing while the phrase grows", 0, codec.encode(0));
        Check.same("reset: clearing", 2, codec.encode(0));
        Check.same("reset: written", "0/2 1/2 0/3 3/3 1/3 4/3 2/3", Check.writtenOf(codec));
        Check.same("reset: nothing is added", 3, codec.codeCount());
        Check.same("reset: phrase", 0, codec.currentPhrase());
        Check.same("reset: then", 1, codec.encode(1));
        Check.same("reset: then", "0/2 1/2 0/3 3/3 1/3 4/3 2/3 0/2", Check.writtenOf(codec));
        Check.same("reset: then", "ab", Check.phraseOf(codec, 3));
    }

    private static void encodeWithFreeze() {
        LzwCodec codec = Check.loaded("lzw 2 3 freeze 1;symbols abaabbba;");
        Check.same("freeze", 1, codec.encode(0));
        Check.same("freeze: written", "0/2 1/2 0/3 3/3 1/3 4/3", Check.writtenOf(codec));
        Check.same("freeze: codes", 8, codec.codeCount());
        Check.same("freeze: phrase", 0, codec.currentPhrase());
        Check.same("freeze: the dictionary is used", 0, codec.encode(1));
        Check.same("freeze: the dictionary is used", 3, codec.currentPhrase());
    }

    private static void encodeWithWatch() {
        // Six codes of 16 bits for 8 symbols of 1 bit: 200 percent.
        LzwCodec codec = Check.loaded("lzw 2 3 watch 200;symbols abaabbba;");
        Check.same("watch: 200 is not greater than 200", 1, codec.encode(0));
        Check.same("watch: percent", 200, codec.percentSinceClear());
        Check.same("watch: kept", 8, codec.codeCount());
        codec.undo();
        codec.setLimit(199);
        Check.same("watch: 200 is greater than 199", 2, codec.encode(0));
        Check.same("watch: cleared", 3, codec.codeCount());
        Check.same("watch: written", "0/2 1/2 0/3 3/3 1/3 4/3 2/3", Check.writtenOf(codec));
        // Seven codes of 19 bits for 11 symbols: 172.7 percent, rounded down.
        LzwCodec rounded = Check.loaded("lzw 2 3 watch 200;symbols abaabbbaabb;");
        rounded.setLimit(172);
        Check.same("watch: 172.7 is 172", 1, rounded.encode(0));
        rounded.undo();
        rounded.setLimit(171);
        Check.same("watch: 172.7 is more than 171", 2, rounded.encode(0));
        // Not full: 300 percent and more, but no clearing.
        LzwCodec early = Check.loaded("lzw 2 3 watch 1;symbols abaabb;");
        Check.same("watch: only a full dictionary", "0/2 1/2 0/3 3/3", Check.writtenOf(early));
        Check.same("watch: only a full dictionary", 0, early.clearCount());
        // Only what was written since the latest clear code counts.
        LzwCodec later = Check.loaded("lzw 2 3 watch 1;symbols abaabbbaa;");
        Check.same("watch: cleared once", 1, later.clearCount());
        later.setLimit(200);
        Check.encodeText(later, "baabbba");
        Check.same("watch: the second time", 1, later.clearCount());
        Check.same("watch: the second time", 0, later.clearsIfEncoded(0));
        later.setLimit(199);
        Check.same("watch: the second time", 1, later.clearsIfEncoded(0));
    }

    private static void encodeWithoutRoom() {
        LzwCodec reset = Check.loaded("lzw 6 3 reset 90;symbols abc;");
        Check.same("no room: one code free", "0/3 1/3 6/3", Check.writtenOf(reset));
        Check.same("no room: phrase", "lzw 6 3 reset 90;symbols abc;", Check.setupOf(reset));
        Check.same("no room: codes", 7, reset.codeCount());
        LzwCodec freeze = Check.loaded("lzw 6 3 freeze 90;symbols abcab;");
        Check.same("no room: freeze", "0/3 1/3 2/3", Check.writtenOf(freeze));
        Check.same("no room: freeze", 7, freeze.currentPhrase());
    }

    private static void encodeRefuses() {
        LzwCodec codec = new LzwCodec();
        Check.fails("encode(-1)", ARGUMENT, () -> codec.encode(-1));
        Check.fails("encode(4)", ARGUMENT, () -> codec.encode(4));
        Check.fails("encode(least)", ARGUMENT, () -> codec.encode(Integer.MIN_VALUE));
        Check.same("encode(3)", 0, codec.encode(3));
        LzwCodec full = Check.loaded("lzw 2 8 reset 90;symbols " + "a".repeat(399) + ";");
        full.encode(0);
        Check.same("encode: symbol 400", 400, full.encodedCount());
        int written = full.writtenCount();
        Check.fails("encode: symbol 401", STATE, () -> full.encode(0));
        Check.fails("encode: wrong symbol 401", ARGUMENT, () -> full.encode(2));
        Check.same("encode: no symbol more", 400, full.encodedCount());
        Check.same("encode: no code more", written, full.writtenCount());
        Check.same("encode: one change", 0, full.undo());
        full.encode(1);
        full.flush();
        Check.fails("encode: after flush it is still 400", STATE, () -> full.encode(0));
        full.restart();
        Check.same("encode: after restart", 0, full.encode(0));
    }

    private static void encodeTape() {
        LzwCodec codec = new LzwCodec();
        Check.same("encodeTape", 4, Check.encodeText(codec, "abababac"));
        Check.same("encodeTape: tape", 0, codec.truncate(0));
        Check.same("encodeTape: written", "0/3 1/3 5/3 7/3", Check.writtenOf(codec));
        Check.same("encodeTape: goes on", 1, Check.encodeText(codec, "d"));
        Check.same("encodeTape: nothing", 0, codec.encodeTape());
        Check.same("encodeTape: nothing is a change", 2, codec.undo());
        Check.same("encodeTape: one change", 1, codec.undo());
        Check.same("encodeTape: one change", 8, codec.encodedCount());
        Check.same("encodeTape: one change", 0, codec.undo());
        Check.same("encodeTape: one change", 0, codec.encodedCount());
        LzwCodec clearing = Check.loaded("lzw 2 3 reset 90;");
        Check.same("encodeTape: clear codes count", 7, Check.encodeText(clearing, "abaabbbaa"));
    }

    private static void tapeRefused(String letters) {
        LzwCodec codec = new LzwCodec();
        codec.encode(1);
        Check.type(codec, letters);
        Check.fails("encodeTape " + letters, ARGUMENT, () -> codec.encodeTape());
        Check.same("encodeTape " + letters + ": tape", letters.length(), codec.truncate(0));
        Check.same("encodeTape " + letters + ": symbols", 1, codec.encodedCount());
        Check.same("encodeTape " + letters + ": changes", 0, codec.undo());
    }

    private static void encodeTapeRefuses() {
        tapeRefused("abe");
        tapeRefused("ab ");
        tapeRefused("A");
        tapeRefused("a`");
        tapeRefused("\u0000");
        tapeRefused("ab\u00e1");
        LzwCodec codec = Check.loaded("lzw 2 8 reset 90;symbols " + "a".repeat(398) + ";");
        Check.type(codec, "abb");
        Check.fails("encodeTape: 401", STATE, () -> codec.encodeTape());
        Check.same("encodeTape: 401, tape", 3, codec.truncate(0));
        Check.same("encodeTape: 401, symbols", 398, codec.encodedCount());
        Check.type(codec, "c");
        Check.fails("encodeTape: wrong and too many", ARGUMENT, () -> codec.encodeTape());
        codec.truncate(2);
        codec.encodeTape();
        Check.same("encodeTape: 400", 400, codec.encodedCount());
        Check.same("encodeTape: nothing more", 0, codec.encodeTape());
        Check.type(codec, "c".repeat(800));
        Check.fails("encodeTape: a long tape", ARGUMENT, () -> codec.encodeTape());
    }

    private static void flush() {
        LzwCodec codec = new LzwCodec();
        Check.same("flush: nothing", 0, codec.flush());
        Check.same("flush: nothing written", 0, codec.writtenCount());
        Check.same("flush: nothing is a change", 0, codec.undo());
        Check.encodeText(codec, "abababac");
        Check.same("flush", 2, codec.flush());
        Check.same("flush: written", "0/3 1/3 5/3 7/3 2/4 4/4", Check.writtenOf(codec));
        Check.same("flush: no phrase", false, codec.hasPhrase());
        Check.same("flush: cleared", 5, codec.codeCount());
        Check.same("flush: counts", 1, codec.clearCount());
        Check.same("flush: codes since", 0, codec.codesSinceClear());
        Check.same("flush: bits since", 0, codec.bitsSinceClear());
        Check.same("flush: symbols since", 0, codec.symbolsSinceClear());
        Check.same("flush: encoded", 8, codec.encodedCount());
        Check.same("flush: again", 0, codec.flush());
        Check.same("flush: again, no clear code", 1, codec.clearCount());
        codec.encode(1);
        codec.encode(1);
        Check.same("flush: then", "0/3 1/3 5/3 7/3 2/4 4/4 1/3", Check.writtenOf(codec));
    }

    private static void restart() {
        LzwCodec codec = Check.loaded("lzw 2 3 watch 77;symbols abaabbbaa;");
        codec.flush();
        int written = codec.writtenCount();
        String before = Check.stateOf(codec);
        Check.same("restart", written, codec.restart());
        Check.same("restart: state", Check.stateOf(Check.loaded("lzw 2 3 watch 77;")), Check.stateOf(codec));
        Check.same("restart: again", 0, codec.restart());
        codec.undo();
        codec.undo();
        Check.same("restart: undone", before, Check.stateOf(codec));
        LzwCodec filled = Check.loaded("lzw 4 4 freeze 90;symbols abababacddc;");
        String full = Check.stateOf(filled);
        filled.restart();
        Check.same("restart: no flush before", Check.stateOf(Check.loaded("lzw 4 4 freeze 90;")),
                Check.stateOf(filled));
        Check.encodeText(filled, "dcdcdcdabab");
        Check.same("restart: nothing stays", Check.stateOf(Check.loaded("lzw 4 4 freeze 90;symbols dcdcdcdabab;")),
                Check.stateOf(filled));
        filled.undo();
        filled.undo();
        Check.same("restart: all comes back", full, Check.stateOf(filled));
        Check.encodeText(filled, "abac");
        LzwCodec same = Check.loaded("lzw 4 4 freeze 90;symbols abababacddcabac;");
        Check.same("restart: goes on as before", Check.stateOf(same), Check.stateOf(filled));
    }

    private static void setPolicy() {
        LzwCodec codec = new LzwCodec();
        Check.same("setPolicy(WATCH)", LzwCodec.RESET, codec.setPolicy(LzwCodec.WATCH));
        Check.same("setPolicy(FREEZE)", LzwCodec.WATCH, codec.setPolicy(LzwCodec.FREEZE));
        Check.same("setPolicy(FREEZE)", LzwCodec.FREEZE, codec.setPolicy(LzwCodec.FREEZE));
        Check.fails("setPolicy(-1)", ARGUMENT, () -> codec.setPolicy(-1));
        Check.fails("setPolicy(3)", ARGUMENT, () -> codec.setPolicy(3));
        Check.same("setPolicy: changes", 2, codec.undo());
        Check.same("setPolicy: undone", LzwCodec.FREEZE, codec.policy());
        codec.undo();
        Check.same("setPolicy: undone", LzwCodec.WATCH, codec.policy());
        LzwCodec full = Check.loaded("lzw 2 3 freeze 90;symbols abaabbba;");
        full.setPolicy(LzwCodec.RESET);
        Check.same("setPolicy: from now on", 2, full.encode(0));
    }

    private static void setLimit() {
        LzwCodec codec = new LzwCodec();
        Check.same("setLimit(1)", 90, codec.setLimit(1));
        Check.same("setLimit(200)", 1, codec.setLimit(200));
        Check.same("setLimit(200)", 200, codec.setLimit(200));
        Check.fails("setLimit(0)", ARGUMENT, () -> codec.setLimit(0));
        Check.fails("setLimit(201)", ARGUMENT, () -> codec.setLimit(201));
        Check.fails("setLimit(-1)", ARGUMENT, () -> codec.setLimit(-1));
        Check.same("setLimit: changes", 2, codec.undo());
        codec.undo();
        Check.same("setLimit: undone", 1, codec.limit());
    }

    private static void save() {
        LzwCodec codec = new LzwCodec();
        Check.fails("save(-1)", ARGUMENT, () -> codec.save(-1));
        Check.fails("save(2)", ARGUMENT, () -> codec.save(2));
        codec.save(0);
        Check.fails("save: is no change", STATE, () -> codec.undo());
        codec.encode(1);
        codec.save(1);
        codec.encode(2);
        codec.save(0);
        Check.same("save: in place of an earlier one", 2, codec.restore(0));
        Check.same("save: each slot by itself", 1, codec.restore(1));
    }

    private static void restore() {
        LzwCodec codec = new LzwCodec();
        Check.fails("restore(0) of nothing", NoSuchElementException.class, () -> codec.restore(0));
        Check.fails("restore(-1)", ARGUMENT, () -> codec.restore(-1));
        Check.fails("restore(2)", ARGUMENT, () -> codec.restore(2));
        Check.encodeText(codec, "abababac");
        codec.setLimit(44);
        String saved = Check.stateOf(codec);
        codec.save(1);
        Check.fails("restore(0) beside 1", NoSuchElementException.class, () -> codec.restore(0));
        codec.setPolicy(LzwCodec.FREEZE);
        codec.setLimit(45);
        Check.encodeText(codec, "ddcd");
        codec.flush();
        Check.decodeText(codec, "3");
        Check.type(codec, "ab");
        String before = Check.stateOf(codec);
        Check.same("restore", 8, codec.restore(1));
        Check.same("restore: state", saved, Check.stateOf(codec));
        Check.same("restore: tape", 2, codec.truncate(0));
        Check.same("restore: decoded", "d", Check.decodedOf(codec));
        codec.restart();
        Check.same("restore: again", 8, codec.restore(1));
        Check.same("restore: again", saved, Check.stateOf(codec));
        Check.same("restore: is a change", 7, codec.undo());
        codec.undo();
        Check.same("restore: undone", 5, codec.undo());
        Check.same("restore: undone", before, Check.stateOf(codec));
        Check.same("restore: the slot keeps it", 8, codec.restore(1));
        codec.encode(3);
        Check.same("restore: what comes later is not in the slot", 8, codec.restore(1));
    }

    /** What the steps of the next test make different; there are too many of them to look at all of the state. */
    private static String briefly(LzwCodec codec) {
        return codec.encodedCount() + " " + codec.codeCount() + " " + codec.policy() + " " + codec.limit() + " "
                + codec.hasPhrase() + " " + Check.writtenOf(codec);
    }

    private static void undo() {
        LzwCodec codec = Check.loaded("lzw 2 3 reset 90;symbols abaabbb;");
        Check.fails("undo: nothing", STATE, () -> codec.undo());
        String[] states = new String[7];
        states[0] = briefly(codec);
        codec.encode(0);
        states[1] = briefly(codec);
        Check.encodeText(codec, "abab");
        states[2] = briefly(codec);
        codec.flush();
        states[3] = briefly(codec);
        codec.setPolicy(LzwCodec.WATCH);
        states[4] = briefly(codec);
        codec.setLimit(3);
        states[5] = briefly(codec);
        codec.restart();
        for (int left = 5; left >= 0; left--) {
            Check.same("undo: left", left, codec.undo());
            Check.same("undo: state " + left, states[left], briefly(codec));
        }
        Check.fails("undo: no more", STATE, () -> codec.undo());
        Check.same("undo: no more", states[0], briefly(codec));
        codec.encode(1);
        Check.same("undo: new changes", 0, codec.undo());
    }

    private static void undoForgetsTheOldest() {
        LzwCodec codec = new LzwCodec();
        for (int i = 1; i <= 19; i++) {
            codec.setLimit(i);
        }
        Check.same("undo: 8 of 19", 7, codec.undo());
        Check.same("undo: 8 of 19", 18, codec.limit());
        codec.setLimit(100);
        codec.setLimit(101);
        for (int left = 7; left >= 0; left--) {
            Check.same("undo: the latest 8", left, codec.undo());
        }
        Check.same("undo: the latest 8", 12, codec.limit());
        Check.fails("undo: the ninth", STATE, () -> codec.undo());
    }

    private static void undoLeaves() {
        LzwCodec codec = new LzwCodec();
        codec.encode(0);
        codec.save(0);
        Check.decodeText(codec, "1 1");
        Check.type(codec, "0 9");
        Check.fails("undo: decode", ARGUMENT, () -> codec.decode());
        Check.type(codec, "abc");
        codec.undo();
        Check.same("undo leaves the tape", 3, codec.truncate(0));
        Check.same("undo leaves the error position", 2, codec.errorPosition());
        Check.same("undo leaves the decoded text", "bb", Check.decodedOf(codec));
        Check.same("undo leaves the saved states", 1, codec.restore(0));
        codec.encodeTape();
        codec.undo();
        Check.same("undo does not bring back the tape", 0, codec.truncate(0));
    }

    private static void everyChangeCounts() {
        LzwCodec codec = new LzwCodec();
        codec.save(0);
        codec.encode(0);
        codec.restart();
        codec.encodeTape();
        codec.flush();
        codec.restart();
        codec.setPolicy(LzwCodec.RESET);
        codec.setLimit(90);
        codec.restore(0);
        for (int left = 7; left >= 0; left--) {
            Check.same("every change", left, codec.undo());
        }
        Check.fails("every change: no more", STATE, () -> codec.undo());
    }

    private static void failedCallsAreNoChanges() {
        LzwCodec codec = new LzwCodec();
        codec.encode(0);
        Check.type(codec, "x");
        Check.fails("failed encode", ARGUMENT, () -> codec.encode(7));
        Check.fails("failed encodeTape", ARGUMENT, () -> codec.encodeTape());
        Check.fails("failed setPolicy", ARGUMENT, () -> codec.setPolicy(7));
        Check.fails("failed setLimit", ARGUMENT, () -> codec.setLimit(0));
        Check.fails("failed restore", ARGUMENT, () -> codec.restore(7));
        Check.fails("failed restore", NoSuchElementException.class, () -> codec.restore(0));
        Check.fails("failed load", ARGUMENT, () -> codec.load());
        Check.same("one change", 0, codec.undo());
        Check.fails("one change", STATE, () -> codec.undo());
    }
}

import java.util.Random;
import java.util.function.Supplier;

/** Long runs of random calls, each answered by the class and by the model; the seeds are fixed. */
public final class RandomRuns {
    private static final int RUNS = 1500;
    private static final int CALLS = 512;

    private final Random random;
    private final LzwCodec codec = new LzwCodec();
    private final Model model = new Model();
    private final int run;
    private int calls = 0;

    private RandomRuns(int run) {
        this.run = run;
        this.random = new Random(run);
    }

    public static void main(String[] args) {
        for (int run = 0; run < RUNS; run++) {
            RandomRuns runs = new RandomRuns(run);
            while (runs.calls < CALLS) {
                runs.step();
            }
        }
        for (int run = 0; run < 400; run++) {
            new RandomRuns(-1 - run).lookAtAll();
        }
        Check.finish();
    }

    /** Past the 512 calls nothing is promised. */
    private void both(String call, Supplier<Object> due, Supplier<Object> got) {
        if (calls >= CALLS) {
            return;
        }
        calls++;
        Check.same("run " + run + ", call " + calls + ", " + call, answer(due), answer(got));
    }

    private static String answer(Supplier<Object> call) {
        try {
            return String.valueOf(call.get());
        } catch (RuntimeException e) {
            return "throws " + e.getClass().getName();
        }
    }

    // ---- texts to put on the tape

    private void type(String text) {
        for (int from = 0; from < text.length(); from += 20) {
            String twenty = (text.substring(from) + " ".repeat(20)).substring(0, 20);
            both("append", () -> model.append(twenty), () -> codec.append(Check.wordAt(twenty, 0),
                    Check.wordAt(twenty, 4), Check.wordAt(twenty, 8), Check.wordAt(twenty, 12),
                    Check.wordAt(twenty, 16)));
        }
        int filled = (20 - text.length() % 20) % 20;
        both("truncate", () -> model.truncate(filled), () -> codec.truncate(filled));
    }

    private String letters(int length, int alphabet) {
        StringBuilder text = new StringBuilder();
        int used = 1 + random.nextInt(alphabet);
        for (int i = 0; i < length; i++) {
            boolean again = i > 0 && random.nextInt(3) > 0;
            text.append(again ? text.charAt(random.nextInt(i)) : (char) ('a' + random.nextInt(used)));
        }
        return text.toString();
    }

    private String gap() {
        return new String[] {" ", " ", "  ", "\n", ""}[random.nextInt(5)];
    }

    private String setup() {
        int alphabet = random.nextInt(10) == 0 ? random.nextInt(30) : 2 + random.nextInt(8);
        int widest = random.nextInt(10) == 0 ? random.nextInt(11) : 4 + random.nextInt(3);
        String policy = new String[] {"freeze", "reset", "watch", "watch"}[random.nextInt(4)];
        int limit = random.nextInt(10) == 0 ? random.nextInt(260) : 40 + random.nextInt(100);
        StringBuilder text = new StringBuilder("lzw" + gap() + alphabet + " " + widest + gap() + policy + gap()
                + limit + gap() + ";" + gap());
        for (int i = random.nextInt(3); i > 0; i--) {
            int most = random.nextInt(4) == 0 ? 260 : 60;
            text.append("symbols ").append(letters(1 + random.nextInt(most), Math.max(1, alphabet))).append(gap())
                    .append(';').append(gap());
        }
        return spoiled(text.toString());
    }

    private String codes() {
        StringBuilder text = new StringBuilder();
        int next = model.now.alphabet + 1;
        boolean fresh = true;
        for (int i = random.nextInt(random.nextInt(4) == 0 ? 200 : 30); i > 0; i--) {
            int code = random.nextInt(next);
            if (!fresh && random.nextInt(4) == 0) {
                code = next;
            }
            if (code == model.now.alphabet) {
                next = code + 1;
            } else if (!fresh && next < model.now.capacity() && random.nextInt(15) > 0) {
                next++;
            }
            fresh = code == model.now.alphabet;
            text.append(random.nextInt(20) == 0 ? "0" : "").append(code).append(random.nextInt(9) == 0 ? "\n" : " ");
        }
        return spoiled(text.toString());
    }

    private String writtenCodes() {
        StringBuilder text = new StringBuilder();
        for (int code : model.now.codes) {
            text.append(code).append(' ');
        }
        return text.length() > 780 ? "" : text.toString();
    }

    private String spoiled(String text) {
        if (text.isEmpty() || random.nextInt(3) > 0) {
            return text;
        }
        int place = random.nextInt(text.length());
        String signs = ";; \n\t09azA`{/:\u00e9\u0000\u00ff";
        String sign = String.valueOf(signs.charAt(random.nextInt(signs.length())));
        return switch (random.nextInt(3)) {
            case 0 -> text.substring(0, place);
            case 1 -> text.substring(0, place) + sign + text.substring(place);
            default -> text.substring(0, place) + sign + text.substring(place + 1);
        };
    }

    private void emptyTape() {
        int length = model.tape.length();
        both("truncate", () -> model.truncate(length), () -> codec.truncate(length));
    }

    // ---- calls

    private int symbol() {
        return random.nextInt(15) == 0 ? random.nextInt(40) - 5 : random.nextInt(model.now.alphabet);
    }

    private int code() {
        return random.nextInt(model.now.phrases.size() + 4) - 2;
    }

    private void step() {
        int kind = random.nextInt(100);
        if (kind < 8) {
            textStep(random.nextInt(8));
        } else if (kind < 35) {
            encodeStep();
        } else if (kind < 50) {
            changeStep(random.nextInt(12));
        } else if (kind < 75) {
            askDictionary();
        } else {
            askNumbers();
        }
    }

    private void textStep(int kind) {
        if (kind < 3) {
            emptyTape();
            type(setup());
            both("load", () -> model.load(), () -> codec.load());
        } else if (kind < 6) {
            emptyTape();
            type(kind == 3 ? writtenCodes() : codes());
            both("decode", () -> model.decode(), () -> codec.decode());
        } else if (kind == 6) {
            type(letters(random.nextInt(100), model.now.alphabet));
        } else {
            int count = random.nextInt(60) - 5;
            both("truncate", () -> model.truncate(count), () -> codec.truncate(count));
        }
        both("errorPosition", () -> model.error, () -> codec.errorPosition());
    }

    private void encodeStep() {
        if (random.nextInt(4) == 0) {
            if (random.nextInt(8) > 0) {
                emptyTape();
                type(letters(random.nextInt(80), Math.min(26, model.now.alphabet + random.nextInt(5) / 4)));
            }
            both("findTape", () -> model.findTape(), () -> codec.findTape());
            both("encodeTape", () -> model.encodeTape(), () -> codec.encodeTape());
            return;
        }
        int symbol = symbol();
        both("codesIfEncoded", () -> model.codesIfEncoded(symbol), () -> codec.codesIfEncoded(symbol));
        both("clearsIfEncoded", () -> model.clearsIfEncoded(symbol), () -> codec.clearsIfEncoded(symbol));
        both("encode", () -> model.encode(symbol), () -> codec.encode(symbol));
    }

    private void changeStep(int kind) {
        int number = random.nextInt(4) - (random.nextInt(6) == 0 ? 1 : 0);
        int percent = random.nextInt(230) - 10;
        switch (kind) {
            case 0, 1 -> both("flush", () -> model.flush(), () -> codec.flush());
            case 2 -> {
                if (random.nextInt(3) == 0) {
                    both("restart", () -> model.restart(), () -> codec.restart());
                }
            }
            case 3 -> both("setPolicy", () -> model.setPolicy(number), () -> codec.setPolicy(number));
            case 4 -> both("setLimit", () -> model.setLimit(percent), () -> codec.setLimit(percent));
            case 5 -> both("save", () -> model.save(number), () -> saved(number));
            case 6, 7 -> both("restore", () -> model.restore(number), () -> codec.restore(number));
            default -> {
                for (int i = random.nextInt(random.nextInt(5) == 0 ? 11 : 3); i > 0; i--) {
                    both("undo", () -> model.undo(), () -> codec.undo());
                }
            }
        }
    }

    private int saved(int slot) {
        codec.save(slot);
        return 0;
    }

    private void askDictionary() {
        int code = code();
        int symbol = symbol();
        int index = random.nextInt(8) - 1;
        both("codeCount", () -> model.now.phrases.size(), () -> codec.codeCount());
        both("isFull", () -> model.now.full(), () -> codec.isFull());
        both("codeWidth", () -> model.now.width(), () -> codec.codeWidth());
        both("phraseLength", () -> model.phraseLength(code), () -> codec.phraseLength(code));
        both("phraseSymbol", () -> model.phraseSymbol(code, index), () -> codec.phraseSymbol(code, index));
        both("prefixOf", () -> model.prefixOf(code), () -> codec.prefixOf(code));
        both("extensionOf", () -> model.extensionOf(code, symbol), () -> codec.extensionOf(code, symbol));
        both("extensionCount", () -> model.extensionCount(code), () -> codec.extensionCount(code));
        both("longestPhrase", () -> model.longestPhrase(), () -> codec.longestPhrase());
        both("usesOf", () -> model.usesOf(code), () -> codec.usesOf(code));
        both("hasPhrase", () -> !model.now.current.isEmpty(), () -> codec.hasPhrase());
        both("currentPhrase", () -> model.currentPhrase(), () -> codec.currentPhrase());
    }

    private void askNumbers() {
        both("writtenCount", () -> model.now.codes.size(), () -> codec.writtenCount());
        both("bitCount", () -> model.bits().length(), () -> codec.bitCount());
        both("byteCount", () -> model.paddedBits().length() / 8, () -> codec.byteCount());
        both("clearCount", () -> model.clearCount(), () -> codec.clearCount());
        both("codesSinceClear", () -> model.codesSinceClear(), () -> codec.codesSinceClear());
        both("symbolsSinceClear", () -> model.symbolsSinceClear(), () -> codec.symbolsSinceClear());
        both("bitsSinceClear", () -> model.bitsSinceClear(), () -> codec.bitsSinceClear());
        both("percentSinceClear", () -> model.now.percent(), () -> codec.percentSinceClear());
        both("savedBits", () -> model.savedBits(), () -> codec.savedBits());
        both("bitsPerSymbol", () -> model.bitsPerSymbol(), () -> codec.bitsPerSymbol());
        both("fillShare", () -> (float) model.now.phrases.size() / (float) model.now.capacity(),
                () -> codec.fillShare());
        both("longestDecodedRun", () -> model.longestDecodedRun(), () -> codec.longestDecodedRun());
        both("decodedCount", () -> model.decoded.length(), () -> codec.decodedCount());
        both("restoredCount", () -> model.restoredCount(), () -> codec.restoredCount());
        both("isRestored", () -> model.isRestored(), () -> codec.isRestored());
        both("setupLength", () -> model.setup().length(), () -> codec.setupLength());
        int index = random.nextInt(model.now.codes.size() + 3) - 1;
        int bit = random.nextInt(model.bits().length() + 3) - 1;
        int sign = random.nextInt(model.setup().length() + 3) - 1;
        int place = random.nextInt(model.decoded.length() + 3) - 1;
        both("writtenCode", () -> model.writtenCode(index), () -> codec.writtenCode(index));
        both("writtenWidth", () -> model.writtenWidth(index), () -> codec.writtenWidth(index));
        both("bitAt", () -> model.bitAt(bit), () -> codec.bitAt(bit));
        both("byteAt", () -> model.byteAt(bit / 8), () -> codec.byteAt(bit / 8));
        both("encodedSymbol", () -> model.encodedSymbol(index), () -> codec.encodedSymbol(index));
        both("decodedSymbol", () -> model.decodedSymbol(place), () -> codec.decodedSymbol(place));
        both("setupByte", () -> model.setupByte(sign), () -> codec.setupByte(sign));
    }

    /** A few changes, and then every phrase, code, bit and byte. */
    private void lookAtAll() {
        type(setup());
        both("load", () -> model.load(), () -> codec.load());
        for (int i = 0; i < 6; i++) {
            encodeStep();
            changeStep(random.nextInt(9));
        }
        for (int i = -1; i <= model.now.phrases.size(); i++) {
            int code = i;
            both("usesOf", () -> model.usesOf(code), () -> codec.usesOf(code));
        }
        for (int i = 0; i <= model.paddedBits().length() / 8; i++) {
            int index = i;
            both("byteAt", () -> model.byteAt(index), () -> codec.byteAt(index));
        }
        for (int i = 0; i <= model.now.codes.size(); i++) {
            int index = i;
            both("writtenCode", () -> model.writtenCode(index), () -> codec.writtenCode(index));
            both("writtenWidth", () -> model.writtenWidth(index), () -> codec.writtenWidth(index));
        }
    }
}

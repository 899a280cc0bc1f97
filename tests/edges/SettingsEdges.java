/** The sentences of "Settings", and promises 16 to 20 and 23. */
final class SettingsEdges {
    private SettingsEdges() {
    }

    static void all() {
        Sentences.holds("Settings", "The alphabet has 2 to 26 symbols, numbered from 0", SettingsEdges::sizes);
        Sentences.holds("Settings", "in texts symbol 0 is written as a, symbol 1 as b, and so on", SettingsEdges::letters);
        Sentences.holds("Settings", "The greatest width of a code is 3 to 8 bits.", SettingsEdges::widths);
        Sentences.holds("Settings", "The capacity of the dictionary is 2 to the power of the greatest width; "
                + "it is always at least the alphabet size plus 2.", SettingsEdges::capacities);
        Sentences.holds("Settings", "The policy tells what happens when the dictionary is full: FREEZE, RESET or WATCH.",
                SettingsEdges::policies);
        Sentences.holds("Settings", "The policy WATCH has a limit of 1 to 200 percent.", SettingsEdges::limits);
        Sentences.returns(16, "2 to 26.", SettingsEdges::alphabetSize);
        Sentences.returns(17, "3 to 8 bits.", SettingsEdges::greatestWidth);
        Sentences.returns(18, "FREEZE, RESET or WATCH.", SettingsEdges::policy);
        Sentences.returns(19, "1 to 200 percent.", SettingsEdges::limit);
        Sentences.returns(20, "the smallest number of bits, at least 1, with which all symbols of the alphabet can be "
                + "told apart.", SettingsEdges::plainWidth);
        Sentences.returns(23, "2 to the power of the greatest width.", SettingsEdges::capacity);
    }

    /** A setup text is taken, and the object tells it again. */
    private static void taken(String setup) {
        Check.same("\"" + setup + "\"", setup, Scene.of(setup).setup());
    }

    private static void refused(String setup, int error) {
        Scene.fresh().refusesText(setup, error, LzwCodec::load);
    }

    private static void sizes() {
        taken("lzw 2 8 reset 90;");
        taken("lzw 26 8 reset 90;");
        refused("lzw 1 8 reset 90;", 4);
        refused("lzw 0 8 reset 90;", 4);
        refused("lzw 27 8 reset 90;", 4);
        refused("lzw 256 8 reset 90;", 4);
        for (int size : new int[] {2, 26}) {
            Scene scene = Scene.of("lzw " + size + " 8 reset 90;");
            int last = size - 1;
            scene.answers("the first symbol", 0, codec -> codec.encode(0));
            scene.answers("the last symbol", 0, codec -> codec.encode(last));
            scene.refuses("before the first symbol", Examples.ARGUMENT, codec -> codec.encode(-1));
            scene.refuses("behind the last symbol", Examples.ARGUMENT, codec -> codec.encode(last + 1));
        }
    }

    private static void letters() {
        for (int size = 2; size <= 26; size++) {
            Scene scene = Scene.of("lzw " + size + " 8 reset 90;");
            char last = (char) ('a' + size - 1);
            LzwCodec codec = scene.make();
            Check.encodeText(codec, "a" + last);
            Check.same("a", 0, codec.encodedSymbol(0));
            Check.same("the last letter", size - 1, codec.encodedSymbol(1));
            Check.same("in the setup text", "lzw " + size + " 8 reset 90;symbols a" + last + ";", Check.setupOf(codec));
        }
    }

    private static void widths() {
        taken("lzw 2 3 reset 90;");
        taken("lzw 2 8 reset 90;");
        refused("lzw 2 2 reset 90;", 6);
        refused("lzw 2 0 reset 90;", 6);
        refused("lzw 2 9 reset 90;", 6);
        refused("lzw 2 10 reset 90;", 6);
    }

    private static void capacities() {
        for (int width = 3; width <= 8; width++) {
            Check.same("capacity", 1 << width, Check.loaded("lzw 2 " + width + " reset 90;").capacity());
        }
        taken("lzw 6 3 reset 90;");
        refused("lzw 7 3 reset 90;", 6);
        refused("lzw 8 3 reset 90;", 6);
        taken("lzw 14 4 reset 90;");
        refused("lzw 15 4 reset 90;", 7);
        refused("lzw 26 4 reset 90;", 7);
        taken("lzw 26 5 reset 90;");
    }

    private static void policies() {
        String[] names = {"freeze", "reset", "watch"};
        int[] policies = {LzwCodec.FREEZE, LzwCodec.RESET, LzwCodec.WATCH};
        for (int i = 0; i < names.length; i++) {
            taken("lzw 4 4 " + names[i] + " 90;");
            Check.same(names[i], policies[i], Check.loaded("lzw 4 4 " + names[i] + " 90;").policy());
        }
        refused("lzw 4 4 fresh 90;", 8);
        refused("lzw 4 4 0 90;", 8);
    }

    private static void limits() {
        for (String name : new String[] {"freeze", "reset", "watch"}) {
            int place = 9 + name.length();
            taken("lzw 4 4 " + name + " 1;");
            taken("lzw 4 4 " + name + " 200;");
            refused("lzw 4 4 " + name + " 0;", place);
            refused("lzw 4 4 " + name + " 201;", place);
            refused("lzw 4 4 " + name + " 999;", place);
        }
    }

    private static void alphabetSize() {
        for (int size = 2; size <= 26; size++) {
            Check.same("size", size, Check.loaded("lzw " + size + " 5 reset 90;").alphabetSize());
        }
    }

    private static void greatestWidth() {
        for (int width = 3; width <= 8; width++) {
            Check.same("width", width, Check.loaded("lzw 6 " + width + " reset 90;").greatestWidth());
        }
    }

    private static void policy() {
        LzwCodec codec = new LzwCodec();
        for (int policy : new int[] {LzwCodec.FREEZE, LzwCodec.WATCH, LzwCodec.RESET}) {
            codec.setPolicy(policy);
            Check.same("policy", policy, codec.policy());
        }
    }

    private static void limit() {
        for (int percent = 1; percent <= 200; percent++) {
            Check.same("loaded", percent, Check.loaded("lzw 2 3 freeze " + percent + ";").limit());
            LzwCodec codec = new LzwCodec();
            codec.setLimit(percent);
            Check.same("set", percent, codec.limit());
        }
    }

    private static void plainWidth() {
        int[] last = {0, 2, 4, 8, 16, 26};
        for (int bits = 1; bits <= 5; bits++) {
            for (int size = Math.max(2, last[bits - 1] + 1); size <= last[bits]; size++) {
                Check.same("of " + size, bits, Check.loaded("lzw " + size + " 8 reset 90;").plainWidth());
            }
        }
    }

    private static void capacity() {
        int[] due = {8, 16, 32, 64, 128, 256};
        for (int width = 3; width <= 8; width++) {
            Check.same("of " + width, due[width - 3], Check.loaded("lzw 2 " + width + " watch 1;").capacity());
        }
    }
}

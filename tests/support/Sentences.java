import java.io.IOException;
import java.io.UncheckedIOException;
import java.nio.file.Files;
import java.nio.file.Path;
import java.util.ArrayList;
import java.util.LinkedHashMap;
import java.util.List;
import java.util.Map;

/** The document's sentences, each to be quoted by the test that it holds, so that none is left without one. */
final class Sentences {
    private static final Path DOCUMENT = Path.of("../shared/DOC.md");
    private static final List<String> TERMS = List.of("Settings", "The dictionary", "Widths", "Encoding",
            "Decoding", "Texts", "Changes");
    private static final Map<String, List<String>> DUE = read();
    private static final Map<String, List<String>> QUOTED = new LinkedHashMap<>();

    private Sentences() {
    }

    private static Map<String, List<String>> read() {
        Map<String, List<String>> sections = new LinkedHashMap<>();
        List<String> section = new ArrayList<>();
        try {
            for (String line : Files.readString(DOCUMENT).split("\n")) {
                String name = nameOpenedBy(line);
                if (name != null) {
                    section = new ArrayList<>();
                    sections.put(name, section);
                }
                section.addAll(List.of(line.split("(?<=[.]) (?=[A-Z])")));
            }
        } catch (IOException e) {
            throw new UncheckedIOException(e);
        }
        return sections;
    }

    private static String nameOpenedBy(String line) {
        if (line.startsWith("## ")) {
            return line.substring(3).split(":")[0];
        }
        for (String term : TERMS) {
            if (line.startsWith(term + ". ")) {
                return term;
            }
        }
        return line.startsWith("The constants: ") ? "The constants" : null;
    }

    /** Runs the test of a sentence, or of a part of one; the words stand in the document's section. */
    static void holds(String section, String words, Runnable test) {
        Check.place(section + ", \"" + words + "\"");
        Check.same("the document says so", true, isSaid(section, words));
        QUOTED.computeIfAbsent(section, name -> new ArrayList<>()).add(words);
        int before = Check.checks();
        test.run();
        Check.same("the test checks something", true, Check.checks() > before);
        Check.place("");
    }

    static void returns(int promise, String words, Runnable test) {
        holds("Promise " + promise, "Returns " + words, test);
    }

    static void refuses(int promise, String exception, String words, Runnable test) {
        holds("Promise " + promise, "Throws `" + exception + "` " + words, test);
    }

    private static boolean isSaid(String section, String words) {
        return String.join(" ", DUE.getOrDefault(section, List.of())).contains(words);
    }

    /** Every sentence of the terms, and every "Returns" and "Throws" of a promise, must have been quoted. */
    static void allAreTested() {
        for (Map.Entry<String, List<String>> section : DUE.entrySet()) {
            String name = section.getKey();
            for (String sentence : section.getValue()) {
                if (isDue(name, sentence)) {
                    Check.same(name + " has a test of: " + sentence, true, isQuoted(name, sentence));
                }
            }
        }
    }

    private static boolean isDue(String section, String sentence) {
        if (section.startsWith("Promise ")) {
            return sentence.startsWith("Returns ") || sentence.startsWith("Throws ");
        }
        return TERMS.contains(section) && sentence.matches("[A-Z].*[.]") && !sentence.equals(section + ".");
    }

    private static boolean isQuoted(String section, String sentence) {
        for (String words : QUOTED.getOrDefault(section, List.of())) {
            if (sentence.contains(words) || words.contains(sentence)) {
                return true;
            }
        }
        return false;
    }
}

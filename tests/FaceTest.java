import java.io.IOException;
import java.lang.reflect.Constructor;
import java.lang.reflect.Field;
import java.lang.reflect.Method;
import java.lang.reflect.Modifier;
import java.nio.charset.StandardCharsets;
import java.nio.file.Files;
import java.nio.file.Path;
import java.util.Set;
import java.util.TreeSet;

/** The public face, compared with the document's, and the rules of LANGUAGE.md that a text search can tell. */
public final class FaceTest {
    private static final Path DOCUMENT = Path.of("../shared/DOC.md");
    private static final Path SOURCE = Path.of("src/main/java/LzwCodec.java");
    private static final String[] FORBIDDEN = {
        "\\btry\\b", "\\bcatch\\b", "\\bfinally\\b", "\\bassert\\b", "\\bsynchronized\\b", "->", "::",
        "\\bvar\\b", "\\bSystem\\.(?!arraycopy\\b)", "\\b\\w+Exact\\b",
        "@Override", "\\bpackage\\b", "\\bThread\\b", "\\bRandom\\b", "\\bstatic\\s*\\{", "\\bString\\s*\\[",
    };

    public static void main(String[] args) throws IOException {
        Check.same("the face", String.join("\n", faceOfDocument()), String.join("\n", faceOfClass()));
        Check.same("final", true, Modifier.isFinal(LzwCodec.class.getModifiers()));
        onlyPrivateElse();
        sourceRules();
        methodsAreShort();
        Check.finish();
    }

    /** The document's lines without the names of the parameters. */
    private static Set<String> faceOfDocument() throws IOException {
        Set<String> face = new TreeSet<>();
        for (String line : Files.readString(DOCUMENT).split("\n")) {
            if (line.startsWith("    public ")) {
                String plain = line.trim().replaceAll("(int|boolean) \\w+([,)])", "$1$2").replaceAll("\\(\\s+", "(");
                face.add(plain);
            }
        }
        Check.same("lines of the face", 64, face.size());
        return face;
    }

    private static Set<String> faceOfClass() {
        Set<String> face = new TreeSet<>();
        for (Field field : LzwCodec.class.getDeclaredFields()) {
            if (!Modifier.isPrivate(field.getModifiers())) {
                face.add("public static final int " + field.getName() + " = " + valueOf(field) + ";");
            }
        }
        for (Constructor<?> constructor : LzwCodec.class.getDeclaredConstructors()) {
            face.add("public LzwCodec(" + names(constructor.getParameterTypes()) + ");");
        }
        for (Method method : LzwCodec.class.getDeclaredMethods()) {
            if (Modifier.isPublic(method.getModifiers())) {
                String exceptions = names(method.getExceptionTypes());
                face.add("public " + method.getReturnType().getSimpleName() + " " + method.getName() + "("
                        + names(method.getParameterTypes()) + ")" + (exceptions.isEmpty() ? "" : " throws " + exceptions)
                        + ";");
            }
        }
        return face;
    }

    private static String valueOf(Field field) {
        try {
            return String.valueOf(field.get(null));
        } catch (IllegalAccessException e) {
            return "hidden";
        }
    }

    private static String names(Class<?>[] types) {
        StringBuilder names = new StringBuilder();
        for (Class<?> type : types) {
            names.append(names.length() == 0 ? "" : ", ").append(type.getSimpleName());
        }
        return names.toString();
    }

    private static void onlyPrivateElse() {
        Set<String> open = new TreeSet<>();
        Set<String> hidden = new TreeSet<>();
        for (Method method : LzwCodec.class.getDeclaredMethods()) {
            boolean isOpen = Modifier.isPublic(method.getModifiers());
            Check.same(method.getName() + " is public or private", true,
                    isOpen || Modifier.isPrivate(method.getModifiers()));
            (isOpen ? open : hidden).add(method.getName());
        }
        for (Class<?> inside : LzwCodec.class.getDeclaredClasses()) {
            Check.same(inside.getName() + " is private", true, Modifier.isPrivate(inside.getModifiers()));
            Check.same(inside.getName() + " is static", true, Modifier.isStatic(inside.getModifiers()));
            for (Method method : inside.getDeclaredMethods()) {
                hidden.add(method.getName());
            }
        }
        Check.same("classes", true, LzwCodec.class.getDeclaredClasses().length <= 12);
        hidden.retainAll(open);
        Check.same("private methods with public names", "[]", hidden.toString());
    }

    private static void sourceRules() throws IOException {
        String source = Files.readString(SOURCE, StandardCharsets.ISO_8859_1);
        Check.same("signs", true, source.chars().allMatch(sign -> sign == '\n' || (sign >= ' ' && sign < 127)));
        String code = source.replaceAll("(?s)/\\*.*?\\*/", "").replaceAll("//[^\n]*", "");
        for (String rule : FORBIDDEN) {
            var matcher = java.util.regex.Pattern.compile(rule).matcher(code);
            Check.same("forbidden " + rule, "", matcher.find() ? matcher.group() : "");
        }
        var imports = java.util.regex.Pattern.compile("import [^;]*;").matcher(code);
        Check.same("import", "import java.util.NoSuchElementException;", imports.find() ? imports.group() : "");
        Check.same("one import", false, imports.find());
    }

    /** A method is taken to reach from its opening line to the first closing brace of the same depth. */
    private static void methodsAreShort() throws IOException {
        String[] lines = Files.readString(SOURCE).split("\n");
        for (int i = 0; i < lines.length; i++) {
            if (!lines[i].matches("( {4}| {8})\\S.*\\) (throws .*)?\\{")) {
                continue;
            }
            String indent = lines[i].substring(0, lines[i].length() - lines[i].stripLeading().length());
            int end = i;
            while (end < lines.length && !lines[end].equals(indent + "}")) {
                end++;
            }
            Check.same("lines of " + lines[i].trim(), true, end - i <= 60);
        }
    }
}

import java.io.IOException;
import java.lang.reflect.InvocationTargetException;
import java.lang.reflect.Method;
import java.lang.reflect.Modifier;
import java.nio.file.Files;
import java.nio.file.Path;
import java.util.ArrayList;
import java.util.List;
import java.util.regex.Matcher;
import java.util.regex.Pattern;

/**
 * README.md's examples, read from there and called: each answers what its comment says, up to a colon. Every line
 * of a java block must be an example, so that none stands there without having been called.
 */
public final class ReadmeTest {
    private static final Path README = Path.of("README.md");
    private static final Pattern BLOCK = Pattern.compile("(?m)^```java\n(.*?)^```$", Pattern.DOTALL);
    private static final Pattern NEW = Pattern.compile("LzwCodec codec = new LzwCodec\\(\\);( +// .*)?");
    private static final Pattern CALL = Pattern.compile("codec\\.(\\w+)\\((.*)\\);(?: +// ([^:]*)(?:: .*)?)?");
    private static final String NOTHING = "nothing";

    private ReadmeTest() {
    }

    public static void main(String[] args) throws IOException {
        String readme = Files.readString(README);
        Matcher block = BLOCK.matcher(readme);
        int blocks = 0;
        while (block.find()) {
            blocks++;
            holds(block.group(1).split("\n"));
        }
        Check.same("README.md has examples", true, blocks > 0);
        namesEveryCall(readme);
        Check.finish();
    }

    /** A block stands for itself: it begins with a new object. */
    private static void holds(String[] lines) {
        Check.same(lines[0] + " makes the object", true, NEW.matcher(lines[0]).matches());
        LzwCodec codec = new LzwCodec();
        for (int i = 1; i < lines.length; i++) {
            Matcher call = CALL.matcher(lines[i]);
            boolean isCall = call.matches();
            Check.same("\"" + lines[i] + "\" is a call", true, isCall);
            if (isCall) {
                String due = call.group(3) == null ? NOTHING : call.group(3).strip();
                Check.same(lines[i], due, answer(codec, call.group(1), call.group(2)));
            }
        }
    }

    /** The answer as README.md writes it: a value, "nothing" for a void call, or "throws" and an exception's name. */
    private static String answer(LzwCodec codec, String name, String arguments) {
        try {
            Object[] values = valuesOf(arguments);
            Class<?>[] types = new Class<?>[values.length];
            java.util.Arrays.fill(types, int.class);
            Method method = LzwCodec.class.getMethod(name, types);
            Object got = method.invoke(codec, values);
            return method.getReturnType() == void.class ? NOTHING : String.valueOf(got);
        } catch (InvocationTargetException e) {
            return "throws " + e.getCause().getClass().getSimpleName();
        } catch (ReflectiveOperationException | NumberFormatException e) {
            return "no such call: " + e;
        }
    }

    private static Object[] valuesOf(String arguments) throws ReflectiveOperationException {
        List<Object> values = new ArrayList<>();
        for (String argument : arguments.isEmpty() ? new String[0] : arguments.split(", ")) {
            boolean isConstant = argument.startsWith("LzwCodec.");
            values.add(isConstant ? LzwCodec.class.getField(argument.substring(9)).get(null) : Integer.decode(argument));
        }
        return values.toArray();
    }

    private static void namesEveryCall(String readme) {
        for (Method method : LzwCodec.class.getDeclaredMethods()) {
            if (Modifier.isPublic(method.getModifiers())) {
                String name = "`" + method.getName() + "`";
                Check.same("README.md names " + name, true, readme.contains(name));
            }
        }
    }
}

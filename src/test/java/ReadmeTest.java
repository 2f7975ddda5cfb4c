import java.io.IOException;
import java.lang.reflect.Method;
import java.lang.reflect.Modifier;
import java.nio.file.Files;
import java.nio.file.Path;
import java.util.regex.Matcher;
import java.util.regex.Pattern;

/** README.md holds: its example answers what it says, and every call and constant is named in it. */
public final class ReadmeTest {
    private static final Pattern EXAMPLE = Pattern.compile("```java\n(.*?)```", Pattern.DOTALL);
    private static final Pattern TEXT = Pattern.compile("for \\(char sign : \"(.*)\"\\.toCharArray.*");
    private static final Pattern CALL =
            Pattern.compile("wishes\\.(\\w+)\\(([-0-9, ]*)\\); +// (-?\\d+)(?:: .*)?");
    // The lines of the example that hold no call of their own.
    private static final Pattern OTHER = Pattern.compile(
            "WishLimits wishes = new WishLimits\\(\\);| {4}wishes\\.type\\(sign\\);|\\}");

    private static final Checks checks = new Checks();

    public static void main(String[] args) throws IOException, ReflectiveOperationException {
        String readme = Files.readString(Path.of("README.md"));
        example(readme);
        names(readme);
        checks.end();
    }

    private static void example(String readme) throws ReflectiveOperationException {
        Matcher example = EXAMPLE.matcher(readme);
        boolean isThere = example.find();
        checks.holds("README.md has an example", isThere);
        if (!isThere) {
            return;
        }
        WishLimits wishes = new WishLimits();
        for (String line : example.group(1).split("\n")) {
            Matcher text = TEXT.matcher(line);
            Matcher call = CALL.matcher(line);
            if (text.matches()) {
                for (char sign : text.group(1).toCharArray()) {
                    wishes.type(sign);
                }
            } else if (call.matches()) {
                checks.due(line, answer(wishes, call), Long.parseLong(call.group(3)));
            } else {
                checks.holds("a line that can be read: " + line, OTHER.matcher(line).matches());
            }
        }
    }

    private static int answer(WishLimits wishes, Matcher call) throws ReflectiveOperationException {
        String[] parts = call.group(2).isEmpty() ? new String[0] : call.group(2).split(", ");
        Class<?>[] kinds = new Class<?>[parts.length];
        Object[] values = new Object[parts.length];
        for (int k = 0; k < parts.length; k++) {
            kinds[k] = int.class;
            values[k] = Integer.valueOf(parts[k]);
        }
        return (Integer) WishLimits.class.getMethod(call.group(1), kinds).invoke(wishes, values);
    }

    private static void names(String readme) {
        for (Method method : WishLimits.class.getDeclaredMethods()) {
            if (Modifier.isPublic(method.getModifiers())) {
                checks.holds("README.md names " + method.getName(),
                        readme.contains("`" + method.getName() + "("));
            }
        }
        for (String constant : new String[] {"INVALID_ARGUMENT", "NOT_POSSIBLE", "LIMIT_REACHED",
            "NOT_FOUND"}) {
            checks.holds("README.md names " + constant, readme.contains("`" + constant + "`"));
        }
    }
}

import java.io.IOException;
import java.lang.reflect.Constructor;
import java.lang.reflect.Field;
import java.lang.reflect.Method;
import java.lang.reflect.Modifier;
import java.nio.file.Files;
import java.nio.file.Path;
import java.util.Set;
import java.util.TreeSet;
import java.util.regex.Pattern;

/** The rules of ../shared/LANGUAGE.md that a program can look at: the face, the words, the room. */
public final class LanguageTest {
    private static final String INT = "int ";
    private static final Set<String> METHODS = Set.of(INT + "say 0", INT + "takeBack 1",
            INT + "weigh 2", INT + "set 2", INT + "sentenceOf 2", INT + "range 2", INT + "middle 2",
            INT + "reason 2", INT + "clash 0", INT + "clashes 0", INT + "keep 1", INT + "could 0",
            INT + "broken 5", INT + "with 3", INT + "count 1", INT + "undo 0", INT + "type 1",
            INT + "clearText 0", INT + "fault 1");
    private static final Set<String> CONSTANTS = Set.of("INVALID_ARGUMENT", "NOT_POSSIBLE",
            "LIMIT_REACHED", "NOT_FOUND");
    private static final String[] FORBIDDEN = {"^package ", "^import ", "\\bthrow\\b", "\\bcatch\\b",
        "\\bfinally\\b", "->", "::", "\\bassert\\b", "\\bsynchronized\\b", "\\bprotected\\b",
        "\\bSystem\\.(?!arraycopy)", "\\bFloat\\.", "\\bDouble\\.", "Exact\\(", "\\bordinal\\(",
        "[^\\x00-\\x7f]"};

    private static final Checks checks = new Checks();

    public static void main(String[] args) throws IOException {
        face();
        fields();
        insides();
        words();
        room();
        checks.end();
    }

    private static void face() {
        int modifiers = WishLimits.class.getModifiers();
        checks.holds("public and final", Modifier.isPublic(modifiers) && Modifier.isFinal(modifiers));
        Constructor<?>[] constructors = WishLimits.class.getDeclaredConstructors();
        checks.due("constructors", constructors.length, 1);
        checks.holds("public constructor", Modifier.isPublic(constructors[0].getModifiers()));
        Set<String> shown = new TreeSet<>();
        for (Method method : WishLimits.class.getDeclaredMethods()) {
            if (Modifier.isPublic(method.getModifiers())) {
                shown.add(method.getReturnType() + " " + method.getName() + " "
                        + method.getParameterCount());
            } else {
                checks.holds(method + " is private", Modifier.isPrivate(method.getModifiers()));
                noPublicName(method);
            }
        }
        checks.holds("the document's methods: " + shown, shown.equals(METHODS));
    }

    private static void noPublicName(Method method) {
        for (String shown : METHODS) {
            checks.holds(method + " has a name of its own",
                    !shown.startsWith(INT + method.getName() + " "));
        }
    }

    private static void fields() {
        Set<String> shown = new TreeSet<>();
        for (Field field : WishLimits.class.getDeclaredFields()) {
            if (Modifier.isPublic(field.getModifiers())) {
                shown.add(field.getName());
            } else {
                checks.holds(field + " is private", Modifier.isPrivate(field.getModifiers()));
            }
            staticIsFinal(field);
        }
        checks.holds("the document's constants: " + shown, shown.equals(CONSTANTS));
    }

    private static void staticIsFinal(Field field) {
        int modifiers = field.getModifiers();
        checks.holds(field + " is final if static",
                !Modifier.isStatic(modifiers) || Modifier.isFinal(modifiers));
    }

    private static void insides() {
        Class<?>[] insides = WishLimits.class.getDeclaredClasses();
        checks.holds("some twelve classes", insides.length <= 12);
        for (Class<?> inside : insides) {
            checks.holds(inside + " is static", Modifier.isStatic(inside.getModifiers()));
            for (Method method : inside.getDeclaredMethods()) {
                checks.holds(method + " is not public", !Modifier.isPublic(method.getModifiers()));
                noPublicName(method);
            }
            for (Field field : inside.getDeclaredFields()) {
                staticIsFinal(field);
            }
        }
    }

    private static void words() throws IOException {
        int number = 0;
        for (String line : Files.readAllLines(Path.of("src/main/java/WishLimits.java"))) {
            number++;
            for (String word : FORBIDDEN) {
                checks.holds("line " + number + " has no " + word,
                        !Pattern.compile(word).matcher(line).find());
            }
        }
    }

    /** No call makes an object: all rows are made in the constructor and used again. */
    private static void room() {
        WishLimits wishes = Checks.of("a below b", "b below c", "c below d", "d below e",
                "e at most 9 cm", "a at least 8 cm", "b about 8 cm", "c small", "d from 1 cm to 1 m",
                "a at most 1 m");
        var threads = (com.sun.management.ThreadMXBean)
                java.lang.management.ManagementFactory.getThreadMXBean();
        long before = threads.getCurrentThreadAllocatedBytes();
        for (int k = 0; k < 10; k++) {
            callAll(wishes);
        }
        long made = threads.getCurrentThreadAllocatedBytes() - before;
        checks.holds("the calls make no objects: " + made + " bytes", made < 4096);
    }

    private static void callAll(WishLimits wishes) {
        Checks.write(wishes, "e from 1.0 cm to 100.0 m");
        wishes.set(0, 20);
        wishes.weigh(1, 2);
        wishes.takeBack(9);
        wishes.say();
        wishes.could();
        wishes.clash();
        wishes.clashes();
        wishes.keep(0);
        wishes.broken(1, 2, 3, 4, 5);
        wishes.fault(0);
        wishes.undo();
        wishes.undo();
        for (int k = 0; k < 5; k++) {
            wishes.range(k, 0);
            wishes.reason(k, 1);
            wishes.middle(k, 2);
            wishes.count(k);
            wishes.with(k, 82, 0);
            wishes.sentenceOf(k, 6);
        }
    }
}

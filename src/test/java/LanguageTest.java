import java.io.IOException;
import java.lang.reflect.Array;
import java.lang.reflect.Constructor;
import java.lang.reflect.Field;
import java.lang.reflect.Method;
import java.lang.reflect.Modifier;
import java.nio.file.Files;
import java.nio.file.Path;
import java.util.ArrayDeque;
import java.util.Collections;
import java.util.Deque;
import java.util.IdentityHashMap;
import java.util.Set;
import java.util.TreeSet;
import java.util.regex.Matcher;
import java.util.regex.Pattern;

/** The rules of ../shared/LANGUAGE.md that a program can look at: the face, the words, the room. */
public final class LanguageTest {
    private static final String INT = "int ";
    private static final Set<String> METHODS = Set.of(INT + "say 0", INT + "takeBack 1",
            INT + "weigh 2", INT + "set 2", INT + "sentenceOf 2", INT + "range 2", INT + "middle 2",
            INT + "reason 2", INT + "clash 0", INT + "clashes 0", INT + "keep 1", INT + "could 0",
            INT + "broken 5", INT + "with 3", INT + "count 1", INT + "undo 0", INT + "type 1",
            INT + "clearText 0", INT + "fault 1");
    private static final Set<String> CONSTANTS = Set.of("INVALID_ARGUMENT", "NOT_POSSIBLE",
            "LIMIT_REACHED", "NOT_FOUND");
    private static final String[] FORBIDDEN = {"^\\s*package\\b",
        "^\\s*import (?!java\\.util\\.(ArrayList|List|Arrays|Iterator|NoSuchElementException);)",
        "\\bfinally\\b", "\\)\\s*->", "=\\s*\\w+\\s*->", "::", "\\bassert\\b", "\\bsynchronized\\b",
        "\\bprotected\\b", "\\bSystem\\.(?!arraycopy)", "\\bFloat\\.", "\\bDouble\\.", "Exact\\(",
        "\\bordinal\\(", "[^\\x00-\\x7f]", "\\bgetMessage\\b",
        "\\bcatch\\b.*(NullPointer|ArrayIndex|StringIndex|ClassCast|NegativeArray|ArrayStore|\\(Exc|Thr)"};
    private static final int CALLS = 512;
    // The room of a run holds 7.3 million fields and elements: this is less than a byte for each.
    private static final long BYTES = 7_000_000;
    // So many new objects, kept all at once, must find room in one run.
    private static final int OBJECTS_OF_A_RUN = 512;
    private static final long MOST_OBJECTS = 600_000;
    private static final long MOST_ELEMENTS = 7_300_000;
    private static final int MOST_LINES = 60;
    private static final Pattern METHOD = Pattern.compile(
            "^( +)(?:private|public)[^=;]*\\([^;]*\\) \\{\n(.*?)^\\1\\}",
            Pattern.DOTALL | Pattern.MULTILINE);

    private static final Checks checks = new Checks();

    public static void main(String[] args) throws IOException, IllegalAccessException {
        face();
        fields();
        insides();
        words();
        lines();
        room();
        roomOfObjects();
        nothingIsMade();
        checks.end();
    }

    private static void face() {
        int modifiers = WishLimits.class.getModifiers();
        checks.holds("public and final", Modifier.isPublic(modifiers) && Modifier.isFinal(modifiers));
        Constructor<?>[] constructors = WishLimits.class.getDeclaredConstructors();
        checks.due("constructors", constructors.length, 1);
        checks.holds("public constructor", Modifier.isPublic(constructors[0].getModifiers()));
        Set<String> shown = new TreeSet<>();
        for (Method method : WishLimits.class.getDeclaredMethods()) {
            if (Modifier.isPublic(method.getModifiers())) {
                shown.add(method.getReturnType() + " " + method.getName() + " "
                        + method.getParameterCount());
            } else {
                checks.holds(method + " is private", Modifier.isPrivate(method.getModifiers()));
                noPublicName(method);
            }
        }
        checks.holds("the document's methods: " + shown, shown.equals(METHODS));
    }

    private static void noPublicName(Method method) {
        for (String shown : METHODS) {
            checks.holds(method + " has a name of its own",
                    !shown.startsWith(INT + method.getName() + " "));
        }
    }

    private static void fields() {
        Set<String> shown = new TreeSet<>();
        for (Field field : WishLimits.class.getDeclaredFields()) {
            if (Modifier.isPublic(field.getModifiers())) {
                shown.add(field.getName());
            } else {
                checks.holds(field + " is private", Modifier.isPrivate(field.getModifiers()));
            }
            staticIsFinal(field);
        }
        checks.holds("the document's constants: " + shown, shown.equals(CONSTANTS));
    }

    private static void staticIsFinal(Field field) {
        int modifiers = field.getModifiers();
        checks.holds(field + " is final if static",
                !Modifier.isStatic(modifiers) || Modifier.isFinal(modifiers));
    }

    /** At most seven parameters of a method, and some twenty fields beside the constants. */
    private static void sizes(Class<?> part) {
        for (Method method : part.getDeclaredMethods()) {
            checks.holds(method + " has few parameters", method.getParameterCount() <= 7);
        }
        int fields = 0;
        for (Field field : part.getDeclaredFields()) {
            fields += Modifier.isStatic(field.getModifiers()) ? 0 : 1;
        }
        checks.holds(part + " has few fields: " + fields, fields <= 20);
    }

    private static void insides() {
        Class<?>[] insides = WishLimits.class.getDeclaredClasses();
        checks.holds("some twelve classes", insides.length <= 12);
        sizes(WishLimits.class);
        for (Class<?> inside : insides) {
            checks.holds(inside + " is static", Modifier.isStatic(inside.getModifiers()));
            sizes(inside);
            for (Method method : inside.getDeclaredMethods()) {
                checks.holds(method + " is not public", !Modifier.isPublic(method.getModifiers()));
                noPublicName(method);
            }
            for (Field field : inside.getDeclaredFields()) {
                staticIsFinal(field);
            }
        }
    }

    private static String source() throws IOException {
        return Files.readString(Path.of("src/main/java/WishLimits.java"));
    }

    private static void words() throws IOException {
        String text = source();
        String bare = Pattern.compile("/\\*.*?\\*/|//[^\n]*", Pattern.DOTALL).matcher(text).replaceAll("");
        for (String line : bare.split("\n")) {
            for (String word : FORBIDDEN) {
                checks.holds("no " + word + " in: " + line,
                        !Pattern.compile(word).matcher(line).find());
            }
        }
    }

    /** Methods stay short: some sixty lines. */
    private static void lines() throws IOException {
        Matcher method = METHOD.matcher(source());
        int found = 0;
        while (method.find()) {
            found++;
            String head = method.group().substring(0, method.group().indexOf('\n')).strip();
            long lines = method.group(2).lines().count();
            checks.holds(head + " has few lines: " + lines, lines <= MOST_LINES);
        }
        int due = WishLimits.class.getDeclaredMethods().length + 1;
        for (Class<?> inside : WishLimits.class.getDeclaredClasses()) {
            due += inside.getDeclaredMethods().length;
        }
        checks.holds("all methods are looked at: " + found, found >= due);
    }

    /** Counts the objects, fields and elements that a new object is made of. */
    private static void roomOfObjects() throws IllegalAccessException {
        Set<Object> seen = Collections.newSetFromMap(new IdentityHashMap<>());
        Deque<Object> ahead = new ArrayDeque<>();
        ahead.add(new WishLimits());
        long elements = 0;
        while (!ahead.isEmpty()) {
            Object object = ahead.remove();
            if (seen.add(object)) {
                elements += object.getClass().isArray() ? elementsOf(object, ahead)
                        : fieldsOf(object, ahead);
            }
        }
        checks.holds("a new object: " + seen.size() + " objects and arrays",
                seen.size() * (long) OBJECTS_OF_A_RUN <= MOST_OBJECTS);
        checks.holds("a new object: " + elements + " fields and elements",
                elements * OBJECTS_OF_A_RUN <= MOST_ELEMENTS);
    }

    private static int elementsOf(Object array, Deque<Object> ahead) {
        int length = Array.getLength(array);
        if (!array.getClass().getComponentType().isPrimitive()) {
            for (int k = 0; k < length; k++) {
                addIfThere(Array.get(array, k), ahead);
            }
        }
        return length;
    }

    private static int fieldsOf(Object object, Deque<Object> ahead) throws IllegalAccessException {
        int fields = 0;
        for (Field field : object.getClass().getDeclaredFields()) {
            if (!Modifier.isStatic(field.getModifiers())) {
                fields++;
                field.setAccessible(true);
                if (!field.getType().isPrimitive()) {
                    addIfThere(field.get(object), ahead);
                }
            }
        }
        return fields;
    }

    private static void addIfThere(Object object, Deque<Object> ahead) {
        if (object != null) {
            ahead.add(object);
        }
    }

    /** No call makes an object or an array: what a run makes is what its constructors make. */
    private static void nothingIsMade() {
        var threads = (com.sun.management.ThreadMXBean)
                java.lang.management.ManagementFactory.getThreadMXBean();
        // Of some rounds the least one: the machine itself may make something in one of them.
        long least = Long.MAX_VALUE;
        for (int round = 0; round < 5; round++) {
            WishLimits wishes = Checks.of("a below b", "b about 8 cm", "c small", "a at least 8 cm",
                    "b at most 9 cm");
            long before = threads.getCurrentThreadAllocatedBytes();
            for (int k = 0; k < 12; k++) {
                everyCallOf(wishes);
            }
            least = Math.min(least, threads.getCurrentThreadAllocatedBytes() - before);
        }
        checks.holds("all calls, twelve times: " + least + " bytes", least == 0);
    }

    private static int everyCallOf(WishLimits x) {
        int sum = x.type('d') + x.type(' ') + x.fault(0) + x.fault(1) + x.clearText() + x.type('e')
                + x.type(' ') + x.type('s') + x.type('m') + x.type('a') + x.type('l') + x.type('l');
        sum += x.could() + x.say() + x.weigh(0, 2) + x.set(1, 90) + x.sentenceOf(1, 6);
        sum += x.range(0, 0) + x.middle(1, 1) + x.reason(0, 1) + x.clash() + x.clashes() + x.keep(0);
        sum += x.broken(80, 81, 5, 0, 0) + x.with(0, 80, 1) + x.count(3) + x.undo() + x.takeBack(0);
        return sum + x.undo() + x.clearText();
    }

    /** The dearest calls of a whole run stay far below the room of a run. */
    private static void room() {
        var threads = (com.sun.management.ThreadMXBean)
                java.lang.management.ManagementFactory.getThreadMXBean();
        for (int dearest = 0; dearest < 9; dearest++) {
            long before = threads.getCurrentThreadAllocatedBytes();
            run(dearest);
            long made = threads.getCurrentThreadAllocatedBytes() - before;
            checks.holds("512 calls, kind " + dearest + ": " + made + " bytes", made < BYTES);
        }
    }

    private static void run(int dearest) {
        WishLimits wishes = Checks.of("a below b", "b below c", "c below d", "d below e",
                "e at most 9 cm", "a at least 8 cm", "b about 8 cm", "c small", "d from 1 cm to 1 m",
                "e at most 1 m");
        Checks.write(wishes, "e from 1.0 cm to 100.0 m");
        // 139 signs, eleven times clearText() and ten times say(): 160 calls are gone.
        for (int call = 161; call <= CALLS; call++) {
            callOf(wishes, dearest);
        }
    }

    private static int callOf(WishLimits wishes, int dearest) {
        switch (dearest) {
            case 0: return wishes.clash();
            case 1: return wishes.clashes();
            case 2: return wishes.keep(0);
            case 3: return wishes.reason(4, 0);
            case 4: return wishes.could();
            case 5: return wishes.fault(0);
            case 6: return wishes.weigh(9, 3);
            case 7: return wishes.middle(4, 2);
            default: return wishes.broken(1, 2, 3, 4, 5);
        }
    }
}

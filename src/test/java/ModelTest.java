import java.util.Random;
import java.util.function.IntSupplier;

/** Runs of calls on the class and on the model of the document; every answer must be the same. */
public final class ModelTest {
    private static final int RUNS = 1200;
    private static final int CALLS = 512;
    private static final String[] ALL_KINDS = {"at least #", "at most #", "is #", "from # to #",
        "about #", "below *", "above *", "below *", "above *", "small", "large"};
    private static final String[] MOSTLY_ORDERS = {"below *", "above *", "below *", "above *",
        "below *", "at least #", "at most #", "from # to #", "large"};

    private final Checks checks;
    private final Random random;
    private final WishLimits wishes = new WishLimits();
    private final Model model = new Model();
    private final String name;
    // Few values make many ties and many clashes.
    private final String[] numbers;
    // Mostly sentences that can be together are said: long chains come of it, and rare clashes.
    private final boolean polite;
    private final String[] kinds;
    private int calls = 0;

    private ModelTest(Checks checks, int seed) {
        this.checks = checks;
        random = new Random(seed);
        name = "run " + seed;
        String[][] pools = {
            {"5 mm", "6 mm", "7 mm", "0.5 cm", "0.6 cm"},
            {"10 mm", "1 cm", "2 cm", "0.1 m", "0.5 m", "1 m", "1.5 m", "99 m"},
            {"0 mm", "1 mm", "2 mm", "100000 mm", "99999 mm", "99998 mm", "100 m", "50 m"},
            {"100 mm", "1 m", "999 mm", "1000.0 mm", "101 mm", "0.3 mm", "101 m", "10000.1 cm"}};
        numbers = pools[seed % pools.length];
        polite = seed / pools.length % 2 == 1;
        kinds = seed / pools.length % 3 == 1 ? MOSTLY_ORDERS : ALL_KINDS;
    }

    public static void main(String[] args) {
        Checks checks = new Checks();
        for (int seed = 0; seed < RUNS && checks.allRight(); seed++) {
            new ModelTest(checks, seed).run();
        }
        checks.end();
    }

    private void run() {
        while (calls < CALLS && checks.allRight()) {
            if (random.nextInt(3) == 0) {
                write(sentence());
                if (!polite || model.could() != 0 || random.nextInt(8) == 0) {
                    due("say()", () -> wishes.say(), () -> model.say());
                }
            } else {
                ask();
            }
        }
    }

    /** Makes the call, but none behind the last one that the document speaks of. */
    private void due(String call, IntSupplier got, IntSupplier want) {
        if (calls < CALLS) {
            calls++;
            checks.due(name + ", call " + calls + ": " + call, got.getAsInt(), want.getAsInt());
        }
    }

    private void write(String text) {
        due("clearText()", () -> wishes.clearText(), () -> model.clearText());
        for (int k = 0; k < text.length(); k++) {
            int sign = text.charAt(k);
            due("type(" + sign + ")", () -> wishes.type(sign), () -> model.type(sign));
        }
        due("fault(0)", () -> wishes.fault(0), () -> model.fault(0));
        due("fault(1)", () -> wishes.fault(1), () -> model.fault(1));
        due("could()", () -> wishes.could(), () -> model.could());
    }

    private String sentence() {
        StringBuilder text = new StringBuilder();
        String kind = "* " + kinds[random.nextInt(kinds.length)];
        for (int k = 0; k < kind.length(); k++) {
            char part = kind.charAt(k);
            text.append(part == '*' ? letter() : part == '#' ? number() : String.valueOf(part));
        }
        if (random.nextInt(6) == 0) {
            spoil(text);
        }
        return text.toString();
    }

    private String letter() {
        return String.valueOf((char) ('a' + random.nextInt(5)));
    }

    private String number() {
        return numbers[random.nextInt(numbers.length)];
    }

    private void spoil(StringBuilder text) {
        String signs = " .0159abcdemtsz";
        for (int times = 1 + random.nextInt(2); times > 0 && text.length() > 0; times--) {
            int place = random.nextInt(text.length());
            char sign = signs.charAt(random.nextInt(signs.length()));
            switch (random.nextInt(5)) {
                case 0 -> text.deleteCharAt(place);
                case 1 -> text.insert(place, sign);
                case 2 -> text.setCharAt(place, sign);
                case 3 -> text.append(sign);
                default -> text.setLength(place);
            }
        }
    }

    private void ask() {
        switch (random.nextInt(18)) {
            case 0 -> take(some(9));
            case 1, 2 -> weigh(some(9), 1 + some(9));
            case 3 -> set(some(2), value());
            case 4 -> sentenceOf(some(9), some(8));
            case 5 -> ranges();
            case 6 -> middles();
            case 7, 8, 9 -> reasons();
            case 10 -> due("clash()", () -> wishes.clash(), () -> model.clash());
            case 11 -> due("clashes()", () -> wishes.clashes(), () -> model.clashes());
            case 12 -> keeps();
            case 13 -> broken();
            case 14, 15 -> with();
            case 16 -> counts();
            default -> due("undo()", () -> wishes.undo(), () -> model.undo());
        }
    }

    /** Mostly 0 to the last one; at times a step beside. */
    private int some(int last) {
        return random.nextInt(12) == 0 ? random.nextInt(last + 4) - 1 : random.nextInt(last + 1);
    }

    private int value() {
        int[] ends = {-1, 0, 1, 5, 10, 50, 51, 100, 1000, 99999, 100000, 100001};
        return random.nextInt(4) == 0 ? ends[random.nextInt(ends.length)] : random.nextInt(60);
    }

    private void take(int sentence) {
        due("takeBack(" + sentence + ")", () -> wishes.takeBack(sentence),
                () -> model.takeBack(sentence));
    }

    private void weigh(int sentence, int weight) {
        String call = "weigh(" + sentence + ", " + weight + ")";
        due(call, () -> wishes.weigh(sentence, weight), () -> model.weigh(sentence, weight));
    }

    private void set(int what, int value) {
        due("set(" + what + ", " + value + ")", () -> wishes.set(what, value),
                () -> model.set(what, value));
    }

    private void sentenceOf(int sentence, int what) {
        String call = "sentenceOf(" + sentence + ", " + what + ")";
        due(call, () -> wishes.sentenceOf(sentence, what), () -> model.sentenceOf(sentence, what));
    }

    private void ranges() {
        for (int k = 0; k < 5; k++) {
            int length = k;
            int what = some(1);
            due("range(" + length + ", " + what + ")", () -> wishes.range(length, what),
                    () -> model.range(length, what));
        }
    }

    private void middles() {
        int length = some(4);
        int unit = some(2);
        due("middle(" + length + ", " + unit + ")", () -> wishes.middle(length, unit),
                () -> model.middle(length, unit));
    }

    private void reasons() {
        int length = some(4);
        int what = some(1);
        due("reason(" + length + ", " + what + ")", () -> wishes.reason(length, what),
                () -> model.reason(length, what));
    }

    private void keeps() {
        int what = some(1);
        due("keep(" + what + ")", () -> wishes.keep(what), () -> model.keep(what));
    }

    private void broken() {
        int[] v = new int[5];
        for (int length = 0; length < 5; length++) {
            int least = model.range(length, 0);
            v[length] = least >= 0 && random.nextInt(3) > 0 ? least : value();
        }
        due("broken(" + java.util.Arrays.toString(v) + ")",
                () -> wishes.broken(v[0], v[1], v[2], v[3], v[4]), () -> model.broken(v));
    }

    private void with() {
        int length = some(4);
        int other = some(4);
        int end = model.range(length, random.nextInt(2));
        int value = end >= 0 && random.nextInt(3) > 0 ? end + random.nextInt(3) - 1 : value();
        due("with(" + length + ", " + value + ", " + other + ")",
                () -> wishes.with(length, value, other), () -> model.with(length, value, other));
    }

    private void counts() {
        for (int k = -1; k <= 6; k++) {
            int what = k;
            due("count(" + what + ")", () -> wishes.count(what), () -> model.count(what));
        }
        int setting = 19 + random.nextInt(5);
        due("count(" + setting + ")", () -> wishes.count(setting), () -> model.count(setting));
    }
}

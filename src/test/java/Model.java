import java.math.BigDecimal;
import java.util.ArrayDeque;
import java.util.ArrayList;
import java.util.Arrays;
import java.util.Deque;
import java.util.List;
import java.util.regex.Matcher;
import java.util.regex.Pattern;

/**
 * The document once more, by other means than the class: regular expressions read the text, a
 * table of differences between all lengths tells the ranges, and sets are tried in the very order
 * in which the document prefers them.
 */
final class Model {
    static final int BAD = -1000001;
    static final int CANNOT = -1000002;
    static final int FULL = -1000003;
    static final int NONE = -1000004;

    private static final String NUMBER = "([0-9]{1,6}(?:\\.[0-9])?) (mm|cm|m)";
    private static final Pattern[] KINDS = {
        Pattern.compile("([a-e]) at least " + NUMBER),
        Pattern.compile("([a-e]) at most " + NUMBER),
        Pattern.compile("([a-e]) is " + NUMBER),
        Pattern.compile("([a-e]) from " + NUMBER + " to " + NUMBER),
        Pattern.compile("([a-e]) about " + NUMBER),
        Pattern.compile("([a-e]) below ([a-e])"),
        Pattern.compile("([a-e]) above ([a-e])"),
        Pattern.compile("([a-e]) small"),
        Pattern.compile("([a-e]) large")};
    private static final List<String> UNITS = List.of("mm", "cm", "m");
    private static final int[] MILLIMETERS = {1, 10, 1000};
    private static final int ZERO = 5;

    private record Wish(int kind, int x, int y, int v, int w, int unit, int weight) {
    }

    private record Past(List<Wish> wishes, int[] settings) {
    }

    private List<Wish> wishes = new ArrayList<>();
    private int[] settings = {10, 100, 1000};
    private final Deque<Past> history = new ArrayDeque<>();
    private String text = "";

    int say() {
        if (faultOf(text) != null) {
            return CANNOT;
        }
        if (wishes.size() == 10) {
            return FULL;
        }
        keepPast();
        wishes.add(wishOf(text));
        return wishes.size() - 1;
    }

    int takeBack(int sentence) {
        if (sentence < 0 || sentence >= wishes.size()) {
            return BAD;
        }
        keepPast();
        wishes.remove(sentence);
        return wishes.size();
    }

    int weigh(int sentence, int weight) {
        if (sentence < 0 || sentence >= wishes.size() || weight < 1 || weight > 9) {
            return BAD;
        }
        keepPast();
        Wish old = wishes.get(sentence);
        wishes.set(sentence,
                new Wish(old.kind, old.x, old.y, old.v, old.w, old.unit, weight));
        return old.weight;
    }

    int set(int what, int value) {
        if (what < 0 || what > 2 || value < 0 || value > (what == 0 ? 50 : 100000)) {
            return BAD;
        }
        keepPast();
        int old = settings[what];
        settings[what] = value;
        return old;
    }

    int sentenceOf(int sentence, int what) {
        if (sentence < 0 || sentence >= wishes.size() || what < 0 || what > 8) {
            return BAD;
        }
        Wish wish = wishes.get(sentence);
        long[][] alone = differences(List.of(wish));
        return switch (what) {
            case 0 -> wish.kind;
            case 1 -> wish.x;
            case 2 -> wish.kind <= 4 ? wish.v : NONE;
            case 3 -> wish.kind == 3 ? wish.w : NONE;
            case 4 -> wish.kind == 5 || wish.kind == 6 ? wish.y : NONE;
            case 5 -> wish.weight;
            case 6 -> (int) -alone[wish.x][ZERO];
            case 7 -> (int) alone[ZERO][wish.x];
            default -> wish.kind <= 4 ? wish.unit : NONE;
        };
    }

    int range(int length, int what) {
        if (length < 0 || length > 4 || what < 0 || what > 1) {
            return BAD;
        }
        long[][] table = differences(wishes);
        return table == null ? CANNOT : end(table, length, what);
    }

    int middle(int length, int unit) {
        if (length < 0 || length > 4 || unit < 0 || unit > 2) {
            return BAD;
        }
        long[][] table = differences(wishes);
        if (table == null) {
            return CANNOT;
        }
        float sum = (float) end(table, length, 0) + (float) end(table, length, 1);
        return Float.floatToRawIntBits(sum / (float) (2 * MILLIMETERS[unit]));
    }

    int reason(int length, int what) {
        int due = range(length, what);
        if (due < 0) {
            return due;
        }
        for (int set : setsByPreference()) {
            if (end(differences(some(set)), length, what) == due) {
                return set;
            }
        }
        throw new IllegalStateException("all sentences are a reason");
    }

    int clash() {
        for (int set : setsByPreference()) {
            if (differences(some(set)) == null) {
                return set;
            }
        }
        return NONE;
    }

    int clashes() {
        int found = 0;
        for (int set = 0; set < 1 << wishes.size(); set++) {
            boolean least = differences(some(set)) == null;
            for (int k = 0; k < wishes.size() && least; k++) {
                least = (set & 1 << k) == 0 || differences(some(set & ~(1 << k))) != null;
            }
            found += least ? 1 : 0;
        }
        return found;
    }

    int keep(int what) {
        if (what < 0 || what > 1) {
            return BAD;
        }
        int best = 0;
        int heaviest = -1;
        for (int set = (1 << wishes.size()) - 1; set >= 0; set--) {
            int weight = some(set).stream().mapToInt(Wish::weight).sum();
            if (weight >= heaviest && differences(some(set)) != null) {
                best = set;
                heaviest = weight;
            }
        }
        return what == 0 ? best : heaviest;
    }

    int could() {
        if (faultOf(text) != null || differences(wishes) == null) {
            return CANNOT;
        }
        List<Wish> more = new ArrayList<>(wishes);
        more.add(wishOf(text));
        return differences(more) == null ? 0 : 1;
    }

    int broken(int... values) {
        if (Arrays.stream(values).anyMatch(value -> value < 0 || value > 100000)) {
            return BAD;
        }
        int set = 0;
        for (int k = 0; k < wishes.size(); k++) {
            List<Wish> all = new ArrayList<>(List.of(wishes.get(k)));
            for (int length = 0; length < 5; length++) {
                all.add(new Wish(2, length, 0, values[length], 0, 0, 1));
            }
            set |= differences(all) == null ? 1 << k : 0;
        }
        return set;
    }

    int with(int length, int value, int other) {
        if (length < 0 || length > 4 || value < 0 || value > 100000 || other < 0 || other > 4) {
            return BAD;
        }
        List<Wish> more = new ArrayList<>(wishes);
        more.add(new Wish(2, length, 0, value, 0, 0, 1));
        long[][] table = differences(more);
        return table == null ? CANNOT : end(table, other, 0);
    }

    int count(int what) {
        long[][] table = differences(wishes);
        return switch (what) {
            case 0 -> wishes.size();
            case 1 -> (int) wishes.stream()
                    .filter(wish -> wish.kind == 4 || wish.kind == 7 || wish.kind == 8).count();
            case 2 -> table == null ? 0 : 1;
            case 3 -> table == null ? CANNOT : singles(table);
            case 4 -> history.size();
            case 5 -> text.length();
            case 20, 21, 22 -> settings[what - 20];
            default -> BAD;
        };
    }

    int undo() {
        if (history.isEmpty()) {
            return CANNOT;
        }
        Past past = history.removeLast();
        wishes = past.wishes;
        settings = past.settings;
        return history.size();
    }

    int type(int character) {
        if (character < 32 || character > 126) {
            return BAD;
        }
        if (text.length() == 40) {
            return FULL;
        }
        text = text + (char) character;
        return text.length();
    }

    int clearText() {
        int old = text.length();
        text = "";
        return old;
    }

    int fault(int what) {
        if (what < 0 || what > 1) {
            return BAD;
        }
        int[] fault = faultOf(text);
        return fault == null ? NONE : fault[what];
    }

    private void keepPast() {
        history.addLast(new Past(new ArrayList<>(wishes), settings.clone()));
        if (history.size() > 4) {
            history.removeFirst();
        }
    }

    private List<Wish> some(int set) {
        List<Wish> chosen = new ArrayList<>();
        for (int k = 0; k < wishes.size(); k++) {
            if ((set & 1 << k) != 0) {
                chosen.add(wishes.get(k));
            }
        }
        return chosen;
    }

    private List<Integer> setsByPreference() {
        List<Integer> sets = new ArrayList<>();
        for (int set = 0; set < 1 << wishes.size(); set++) {
            sets.add(set);
        }
        sets.sort((one, two) -> Integer.bitCount(one) != Integer.bitCount(two)
                ? Integer.bitCount(one) - Integer.bitCount(two) : one - two);
        return sets;
    }

    private static int end(long[][] table, int length, int what) {
        return (int) (what == 0 ? -table[length][ZERO] : table[ZERO][length]);
    }

    private static int singles(long[][] table) {
        int found = 0;
        for (int length = 0; length < 5; length++) {
            found += end(table, length, 0) == end(table, length, 1) ? 1 : 0;
        }
        return found;
    }

    /** table[i][j]: how much j is above i at the most; null if the sentences cannot be together. */
    private long[][] differences(List<Wish> all) {
        long[][] table = new long[6][6];
        for (int i = 0; i < 6; i++) {
            for (int j = 0; j < 6; j++) {
                table[i][j] = i == j || j == ZERO ? 0 : i == ZERO ? 100000 : 1000000;
            }
        }
        for (Wish wish : all) {
            narrow(table, wish);
        }
        for (int by = 0; by < 6; by++) {
            for (int i = 0; i < 6; i++) {
                for (int j = 0; j < 6; j++) {
                    table[i][j] = Math.min(table[i][j], table[i][by] + table[by][j]);
                }
            }
        }
        for (int i = 0; i < 6; i++) {
            if (table[i][i] < 0) {
                return null;
            }
        }
        return table;
    }

    private void narrow(long[][] table, Wish wish) {
        int about = new BigDecimal(wish.v).multiply(new BigDecimal(settings[0])).movePointLeft(2)
                .toBigInteger().intValue();
        switch (wish.kind) {
            case 0 -> atLeast(table, wish.x, wish.v);
            case 1 -> atMost(table, wish.x, wish.v);
            case 2 -> {
                atLeast(table, wish.x, wish.v);
                atMost(table, wish.x, wish.v);
            }
            case 3 -> {
                atLeast(table, wish.x, wish.v);
                atMost(table, wish.x, wish.w);
            }
            case 4 -> {
                atLeast(table, wish.x, wish.v - about);
                atMost(table, wish.x, wish.v + about);
            }
            case 5 -> table[wish.y][wish.x] = Math.min(table[wish.y][wish.x], -1);
            case 6 -> table[wish.x][wish.y] = Math.min(table[wish.x][wish.y], -1);
            case 7 -> atMost(table, wish.x, settings[1]);
            default -> atLeast(table, wish.x, settings[2]);
        }
    }

    private static void atLeast(long[][] table, int x, int value) {
        table[x][ZERO] = Math.min(table[x][ZERO], -value);
    }

    private static void atMost(long[][] table, int x, int value) {
        table[ZERO][x] = Math.min(table[ZERO][x], value);
    }

    /** The place and the reason; null if there is no fault. */
    private static int[] faultOf(String text) {
        for (int kind = 0; kind < KINDS.length; kind++) {
            Matcher matcher = KINDS[kind].matcher(text);
            if (matcher.matches()) {
                return faultOf(kind, matcher);
            }
        }
        int place = 0;
        while (place < text.length() && isBeginning(text.substring(0, place + 1))) {
            place++;
        }
        return new int[] {place, 1};
    }

    private static boolean isBeginning(String text) {
        for (Pattern kind : KINDS) {
            Matcher matcher = kind.matcher(text);
            if (matcher.matches() || matcher.hitEnd()) {
                return true;
            }
        }
        return false;
    }

    private static int[] faultOf(int kind, Matcher matcher) {
        if (kind == 5 || kind == 6) {
            return matcher.group(1).equals(matcher.group(2)) ? new int[] {matcher.start(2), 4} : null;
        }
        BigDecimal before = BigDecimal.ZERO;
        int[] lower = null;
        for (int group = 2; group + 1 <= matcher.groupCount(); group += 2) {
            BigDecimal value = millimeters(matcher, group);
            if (value.stripTrailingZeros().scale() > 0
                    || value.compareTo(new BigDecimal(100000)) > 0) {
                return new int[] {matcher.start(group), 2};
            }
            if (value.compareTo(before) < 0) {
                lower = new int[] {matcher.start(group), 3};
            }
            before = value;
        }
        return lower;
    }

    private static BigDecimal millimeters(Matcher matcher, int group) {
        int unit = UNITS.indexOf(matcher.group(group + 1));
        return new BigDecimal(matcher.group(group)).multiply(new BigDecimal(MILLIMETERS[unit]));
    }

    private static Wish wishOf(String text) {
        for (int kind = 0; kind < KINDS.length; kind++) {
            Matcher matcher = KINDS[kind].matcher(text);
            if (matcher.matches()) {
                int x = text.charAt(0) - 'a';
                boolean order = kind == 5 || kind == 6;
                boolean value = kind <= 4;
                return new Wish(kind, x, order ? matcher.group(2).charAt(0) - 'a' : 0,
                        value ? millimeters(matcher, 2).intValue() : 0,
                        kind == 3 ? millimeters(matcher, 4).intValue() : 0,
                        value ? UNITS.indexOf(matcher.group(3)) : 0, 1);
            }
        }
        throw new IllegalStateException("a text without a fault is a sentence");
    }
}

/**
 * The document's "What it is", "The public face" and "Terms" up to its settings: each sentence
 * that names an edge has the checks that stand below it.
 */
public final class TermsTest {
    private static final int BAD = WishLimits.INVALID_ARGUMENT;
    private static final int CANNOT = WishLimits.NOT_POSSIBLE;
    private static final int FULL = WishLimits.LIMIT_REACHED;
    private static final int NONE = WishLimits.NOT_FOUND;
    private static final int MOST = 100000;
    private static final String LETTERS = "abcde";
    private static final int[][] PAIRS = {{0, 0}, {0, 1}, {1, 0}, {5, 5}, {5, 6}, {6, 5}, {0, MOST},
        {MOST, 0}, {99999, MOST}, {MOST, 99999}, {MOST, MOST}};

    private static final Checks checks = new Checks();

    public static void main(String[] args) {
        calls();
        dearCalls();
        constants();
        bits();
        lowerSets();
        fiveLengths();
        wholeMillimeters();
        endsOfLengths();
        units();
        tenSentences();
        numbersAfterTakeBack();
        setsAfterTakeBack();
        atLeast();
        atMost();
        is();
        fromTo();
        about();
        aboutBySetting();
        below();
        above();
        small();
        large();
        doubtfulKinds();
        asTheSettingsAreNow();
        otherKindsKeepTheirMeaning();
        weightAtFirst();
        together();
        circles();
        settings();
        checks.end();
    }

    private static void due(String call, long got, long want) {
        checks.due(call, got, want);
    }

    private static WishLimits of(String... sentences) {
        return Checks.of(sentences);
    }

    private static int said(WishLimits x, String text) {
        return Checks.said(x, text);
    }

    // ---- what it is, and the face

    private static void calls() {
        checks.sentence("An object is used for at most 512 calls after it has been made");
        WishLimits x = new WishLimits();
        String text = "a small";
        for (int k = 0; k < text.length(); k++) {
            due("call " + (k + 1), x.type(text.charAt(k)), k + 1);
        }
        due("call 8: say()", x.say(), 0);
        for (int call = 9; call <= 511; call++) {
            due("call " + call + ": weigh", x.weigh(0, weightOfCall(call)), weightOfCall(call - 1));
        }
        due("call 512: undo()", x.undo(), 3);
        WishLimits typed = new WishLimits();
        for (int call = 1; call <= 511; call++) {
            int length = call % 42;
            int due = length == 0 ? 40 : length == 41 ? FULL : length;
            due("call " + call, length == 0 ? typed.clearText() : typed.type('a'), due);
        }
        due("call 512: count(5)", typed.count(5), 7);
    }

    private static int weightOfCall(int call) {
        return call <= 8 ? 1 : call % 9 + 1;
    }

    private static void dearCalls() {
        WishLimits x = of("a below b", "b below c", "c below d", "d below e", "e at most 9 mm",
                "a at least 5 mm", "a small", "b small", "c small", "d small");
        // 93 signs, and ten times clearText() and say(): 113 calls are gone.
        for (int call = 114; call <= 510; call += 3) {
            due("call " + call + ": clash()", x.clash(), NONE);
            due("call " + (call + 1) + ": keep(1)", x.keep(1), 10);
            due("call " + (call + 2) + ": reason(2, 0)", x.reason(2, 0), 35);
        }
    }

    private static void constants() {
        checks.sentence("The constants");
        due("INVALID_ARGUMENT", BAD, -1000001);
        due("NOT_POSSIBLE", CANNOT, -1000002);
        due("LIMIT_REACHED", FULL, -1000003);
        due("NOT_FOUND", NONE, -1000004);
    }

    private static void bits() {
        checks.sentence("Sets of sentences are told as bits: bit k is for the sentence k.");
        WishLimits x = new WishLimits();
        for (int k = 0; k < 10; k++) {
            said(x, "a at least " + (k + 1) + " mm");
        }
        for (int value = 0; value <= 10; value++) {
            int due = 1023 - ((1 << value) - 1);
            due("broken by " + value, x.broken(value, 0, 0, 0, 0), due);
        }
        due("the highest bit", x.reason(0, 0), 512);
        due("all bits", x.keep(0), 1023);
        for (int k = 9; k > 0; k--) {
            due("takeBack(" + k + ")", x.takeBack(k), k);
            due("the highest bit of " + k, x.reason(0, 0), 1 << k - 1);
            due("all bits of " + k, x.keep(0), (1 << k) - 1);
        }
    }

    private static void lowerSets() {
        checks.sentence("One set is lower than another one if it is so as a number.");
        WishLimits x = of("a is 1 mm", "c small", "c small", "c small", "c small", "c small",
                "c small", "b is 1 mm", "b is 2 mm", "a is 2 mm");
        due("clash(): 7 and 8 are lower than 0 and 9", x.clash(), 384);
        due("keep(0): 0 and 7 are lower than 8 and 9", x.keep(0), 255);
        WishLimits y = of("a above b", "d small", "d small", "d small", "d small", "d small",
                "d small", "a above c", "c at least 5 mm", "b at least 5 mm");
        due("reason(0, 0): 7 and 8 are lower than 0 and 9", y.reason(0, 0), 384);
        due("without the 8", y.takeBack(8), 9);
        due("reason(0, 0): 0 and 8", y.reason(0, 0), 257);
    }

    // ---- lengths and units

    private static void fiveLengths() {
        checks.sentence("There are five lengths, a to e, told as 0 to 4.");
        WishLimits x = new WishLimits();
        for (int length = 0; length < 5; length++) {
            said(x, LETTERS.charAt(length) + " is " + (length + 3) + " mm");
            due("x of " + length, x.sentenceOf(length, 1), length);
            due("range of " + length, x.range(length, 0), length + 3);
            due("range of " + length, x.range(length, 1), length + 3);
            due("reason of " + length, x.reason(length, 1), 1 << length);
            due("with of " + length, x.with(length, length + 3, length), length + 3);
        }
        for (int length = 0; length < 5; length++) {
            said(x, LETTERS.charAt(4 - length) + " below " + LETTERS.charAt((7 - length) % 5));
            due("x of an order", x.sentenceOf(5 + length, 1), 4 - length);
            due("y of an order", x.sentenceOf(5 + length, 4), (7 - length) % 5);
        }
        for (char letter : new char[] {'`', 'f', 'A', 'E', '@', '0', '4', 'z'}) {
            dueFault(letter + " small", 0);
            dueFault("a below " + letter, 8);
            dueFault("b above " + letter, 8);
        }
        noSuchLength();
    }

    private static void dueFault(String text, int place) {
        WishLimits x = new WishLimits();
        Checks.write(x, text);
        due("\"" + text + "\": fault(0)", x.fault(0), place);
        due("\"" + text + "\": fault(1)", x.fault(1), 1);
        due("\"" + text + "\": say()", x.say(), CANNOT);
    }

    private static void noSuchLength() {
        WishLimits x = new WishLimits();
        for (int length : new int[] {-1, 5, 'a', 'e', 256, 65536, Integer.MIN_VALUE,
            Integer.MAX_VALUE}) {
            String call = "(" + length + ", ..)";
            due("range" + call, x.range(length, 0), BAD);
            due("middle" + call, x.middle(length, 0), BAD);
            due("reason" + call, x.reason(length, 0), BAD);
            due("with" + call, x.with(length, 0, 0), BAD);
            due("with(0, 0, " + length + ")", x.with(0, 0, length), BAD);
        }
    }

    private static void wholeMillimeters() {
        checks.sentence("Each is a whole number of millimeters, 0 to 100000.");
        WishLimits x = of("a is 5 mm", "a below b", "b below c", "c is 6 mm");
        due("no whole number between 5 and 6", x.count(2), 0);
        x = of("a is 5 mm", "a below b", "b below c", "c is 7 mm");
        due("one between 5 and 7", x.count(2), 1);
        due("the 6", x.range(1, 0), 6);
        due("the 6", x.range(1, 1), 6);
        x = new WishLimits();
        for (int length = 0; length < 5; length++) {
            due("the least", x.range(length, 0), 0);
            due("the greatest", x.range(length, 1), MOST);
            due("the least of all", x.with(length, 0, length), 0);
            due("the greatest of all", x.with(length, MOST, length), MOST);
            for (int wrong : new int[] {-1, MOST + 1, Integer.MIN_VALUE, Integer.MAX_VALUE}) {
                due("with(.., " + wrong + ", ..)", x.with(length, wrong, length), BAD);
                due("broken by " + wrong, broken(x, length, wrong), BAD);
            }
            due("broken by the least", broken(x, length, 0), 0);
            due("broken by the greatest", broken(x, length, MOST), 0);
        }
    }

    /** What is broken if one length has a value and the others have 0. */
    private static int broken(WishLimits x, int length, int value) {
        int[] v = new int[5];
        v[length] = value;
        return x.broken(v[0], v[1], v[2], v[3], v[4]);
    }

    private static void endsOfLengths() {
        WishLimits x = of("a above b", "b is 100 m");
        due("none is above 100000", x.count(2), 0);
        x = of("a above b", "b is 99999 mm");
        due("just 100000 is above 99999", x.range(0, 0), MOST);
        x = of("a below b", "b is 0 mm");
        due("none is below 0", x.count(2), 0);
        x = of("a below b", "b is 1 mm");
        due("just 0 is below 1", x.range(0, 1), 0);
        x = of("a about 100 m", "b below a");
        due("about 100000, the least", x.range(0, 0), 90000);
        due("about 100000, the greatest", x.range(0, 1), MOST);
        due("below it", x.range(1, 1), 99999);
    }

    private static void units() {
        checks.sentence("The units are 0 mm, 1 cm (10 mm) and 2 m (1000 mm).");
        WishLimits x = of("a is 7 mm", "b is 7 cm", "c is 7 m", "d from 1 m to 9000 mm",
                "e from 1 mm to 9 m");
        int[] values = {7, 70, 7000, 1000, 1};
        int[] units = {0, 1, 2, 2, 0};
        for (int k = 0; k < 5; k++) {
            due("the value in mm", x.sentenceOf(k, 2), values[k]);
            due("the unit of the first value", x.sentenceOf(k, 8), units[k]);
        }
        for (int length = 0; length < 3; length++) {
            due("in mm", x.middle(length, 0), Float.floatToIntBits(values[length]));
            due("in cm", x.middle(length, 1), Float.floatToIntBits(values[length] / 10f));
            due("in m", x.middle(length, 2), Float.floatToIntBits(values[length] / 1000f));
        }
        for (int unit : new int[] {-1, 3, 10, 1000, Integer.MIN_VALUE, Integer.MAX_VALUE}) {
            due("middle(0, " + unit + ")", x.middle(0, unit), BAD);
        }
        dueFault("a is 7 km", 7);
        dueFault("a is 7 dm", 7);
        dueFault("a is 7 M", 7);
        dueFault("a is 7 mM", 8);
        dueFault("a is 7 cM", 8);
        dueFault("a is 7 c", 8);
        dueFault("a is 7 cmm", 9);
        dueFault("a is 7 mmm", 9);
    }

    // ---- sentences

    private static void tenSentences() {
        checks.sentence("There are at most 10 sentences, numbered from 0 in the order in which they"
                + " were said");
        WishLimits x = new WishLimits();
        for (int k = 0; k < 10; k++) {
            due("say()", said(x, "a at least " + (k + 20) + " mm"), k);
            due("sentences", x.count(0), k + 1);
        }
        due("an eleventh", x.say(), FULL);
        due("an eleventh again", x.say(), FULL);
        due("ten", x.count(0), 10);
        for (int k = 0; k < 10; k++) {
            due("in their order", x.sentenceOf(k, 2), k + 20);
        }
        due("no number 10", x.sentenceOf(10, 0), BAD);
        due("takeBack(0)", x.takeBack(0), 9);
        due("then a tenth", said(x, "b small"), 9);
        due("no eleventh", x.say(), FULL);
        due("undo()", x.undo(), 3);
        due("then a tenth", x.say(), 9);
        due("undo() of it", x.undo(), 3);
        due("undo() of takeBack", x.undo(), 2);
        due("ten are back", x.say(), FULL);
    }

    private static void numbersAfterTakeBack() {
        checks.sentence("if one is taken back, those behind it have numbers that are less by 1");
        for (int taken = 0; taken < 10; taken++) {
            WishLimits x = new WishLimits();
            for (int k = 0; k < 10; k++) {
                said(x, LETTERS.charAt(k / 2) + " is " + k + " mm");
            }
            due("takeBack(" + taken + ")", x.takeBack(taken), 9);
            for (int k = 0; k < 9; k++) {
                int was = k < taken ? k : k + 1;
                due("value of " + k, x.sentenceOf(k, 2), was);
                due("length of " + k, x.sentenceOf(k, 1), was / 2);
            }
            due("no number 9", x.sentenceOf(9, 2), BAD);
        }
    }

    private static void setsAfterTakeBack() {
        WishLimits x = of("a at least 9 mm", "b small", "c from 2 cm to 3 cm", "d above c");
        due("broken ahead", x.broken(0, 101, 0, 0, 0), 15);
        due("reason ahead", x.reason(3, 0), 12);
        due("takeBack(1)", x.takeBack(1), 3);
        due("broken behind", x.broken(0, 101, 0, 0, 0), 7);
        due("reason behind", x.reason(3, 0), 6);
        due("takeBack(0)", x.takeBack(0), 2);
        due("broken behind", x.broken(0, 101, 0, 0, 0), 3);
        due("reason behind", x.reason(3, 0), 3);
        due("takeBack(1)", x.takeBack(1), 1);
        due("reason behind", x.reason(3, 0), 0);
    }

    private static void atLeast() {
        checks.sentence("kind 0 \"x at least v\": x is v or more");
        dueAlone("at least 0 mm", 0, 0, MOST);
        dueAlone("at least 1 mm", 0, 1, MOST);
        dueAlone("at least 99999 mm", 0, 99999, MOST);
        dueAlone("at least 100 m", 0, MOST, MOST);
    }

    private static void atMost() {
        checks.sentence("kind 1 \"x at most v\": x is v or less");
        dueAlone("at most 0 mm", 1, 0, 0);
        dueAlone("at most 1 mm", 1, 0, 1);
        dueAlone("at most 99999 mm", 1, 0, 99999);
        dueAlone("at most 100 m", 1, 0, MOST);
    }

    private static void is() {
        checks.sentence("kind 2 \"x is v\": x is just v");
        dueAlone("is 0 mm", 2, 0, 0);
        dueAlone("is 0.1 cm", 2, 1, 1);
        dueAlone("is 99999 mm", 2, 99999, 99999);
        dueAlone("is 100 m", 2, MOST, MOST);
    }

    private static void fromTo() {
        checks.sentence("kind 3 \"x from v to w\": x is v or more, and w or less");
        dueAlone("from 0 mm to 0 mm", 3, 0, 0);
        dueAlone("from 0 mm to 1 mm", 3, 0, 1);
        dueAlone("from 5 mm to 7 mm", 3, 5, 7);
        dueAlone("from 0 m to 100 m", 3, 0, MOST);
        dueAlone("from 100 m to 100 m", 3, MOST, MOST);
    }

    private static void about() {
        checks.sentence("kind 4 \"x about v\": x differs from v by at most v times setting 0,"
                + " divided by 100, rounded down");
        dueAlone("about 0 mm", 4, 0, 0);
        dueAlone("about 9 mm", 4, 9, 9);
        dueAlone("about 10 mm", 4, 9, 11);
        dueAlone("about 19 mm", 4, 18, 20);
        dueAlone("about 20 mm", 4, 18, 22);
        dueAlone("about 99 mm", 4, 90, 108);
        dueAlone("about 90909 mm", 4, 81819, 99999);
        dueAlone("about 90910 mm", 4, 81819, MOST);
        dueAlone("about 90920 mm", 4, 81828, MOST);
        dueAlone("about 100 m", 4, 90000, MOST);
    }

    private static void aboutBySetting() {
        int[][] due = {{0, 1, 1, 1}, {0, MOST, MOST, MOST}, {1, 99, 99, 99}, {1, 100, 99, 101},
            {49, 100, 51, 149}, {50, 1, 1, 1}, {50, 2, 1, 3}, {50, 3, 2, 4}, {50, 66666, 33333, 99999},
            {50, 66667, 33334, MOST}, {50, 66668, 33334, MOST}, {50, MOST, 50000, MOST}};
        for (int[] row : due) {
            WishLimits x = of("c about " + row[1] + " mm");
            due("set(0, " + row[0] + ")", x.set(0, row[0]), 10);
            dueRange(x, 2, row[2], row[3]);
        }
    }

    /** Each length told so, alone, has just these ends. */
    private static void dueAlone(String words, int kind, int least, int greatest) {
        for (int length = 0; length < 5; length++) {
            WishLimits x = of(LETTERS.charAt(length) + " " + words);
            due("kind of " + words, x.sentenceOf(0, 0), kind);
            dueRange(x, length, least, greatest);
            int other = (length + 1) % 5;
            due("another length than in " + words, x.range(other, 0), 0);
            due("another length than in " + words, x.range(other, 1), MOST);
        }
    }

    private static void dueRange(WishLimits x, int length, int least, int greatest) {
        due("least, alone", x.sentenceOf(0, 6), least);
        due("greatest, alone", x.sentenceOf(0, 7), greatest);
        due("the least", x.range(length, 0), least);
        due("the greatest", x.range(length, 1), greatest);
        for (int value : new int[] {0, least - 1, least, greatest, greatest + 1, MOST}) {
            if (value >= 0 && value <= MOST) {
                boolean holds = value >= least && value <= greatest;
                due("broken by " + value, broken(x, length, value), holds ? 0 : 1);
                due("with " + value, x.with(length, value, length), holds ? value : CANNOT);
            }
        }
    }

    private static void below() {
        checks.sentence("kind 5 \"x below y\": x is less than y");
        WishLimits x = of("b below d");
        for (int[] pair : PAIRS) {
            due(pair[0] + " below " + pair[1], x.broken(0, pair[0], 0, pair[1], 0),
                    pair[0] < pair[1] ? 0 : 1);
        }
        for (int k = 0; k < 20; k++) {
            int low = k / 4;
            int high = (low + 1 + k % 4) % 5;
            dueOrder(of(LETTERS.charAt(low) + " below " + LETTERS.charAt(high)), 5, low, high);
        }
    }

    private static void above() {
        checks.sentence("kind 6 \"x above y\": x is more than y");
        WishLimits x = of("b above d");
        for (int[] pair : PAIRS) {
            due(pair[0] + " above " + pair[1], x.broken(0, pair[0], 0, pair[1], 0),
                    pair[0] > pair[1] ? 0 : 1);
        }
        for (int k = 0; k < 20; k++) {
            int high = k / 4;
            int low = (high + 1 + k % 4) % 5;
            dueOrder(of(LETTERS.charAt(high) + " above " + LETTERS.charAt(low)), 6, low, high);
        }
    }

    private static void dueOrder(WishLimits x, int kind, int low, int high) {
        int first = kind == 5 ? low : high;
        due("kind", x.sentenceOf(0, 0), kind);
        due("x", x.sentenceOf(0, 1), first);
        due("y", x.sentenceOf(0, 4), kind == 5 ? high : low);
        due("least, alone", x.sentenceOf(0, 6), kind == 5 ? 0 : 1);
        due("greatest, alone", x.sentenceOf(0, 7), kind == 5 ? MOST - 1 : MOST);
        for (int length = 0; length < 5; length++) {
            due("the least of " + length, x.range(length, 0), length == high ? 1 : 0);
            due("the greatest of " + length, x.range(length, 1), length == low ? MOST - 1 : MOST);
        }
        due("the higher one's least", x.with(low, 7, high), 8);
        due("the lower one's least", x.with(high, 7, low), 0);
        due("the lower one at 100000", x.with(low, MOST, high), CANNOT);
        due("the higher one at 0", x.with(high, 0, low), CANNOT);
    }

    private static void small() {
        checks.sentence("kind 7 \"x small\": x is setting 1 or less");
        dueAlone("small", 7, 0, 100);
        for (int setting : new int[] {0, 1, 99999, MOST}) {
            WishLimits x = of("e small");
            due("set(1, " + setting + ")", x.set(1, setting), 100);
            dueRange(x, 4, 0, setting);
        }
    }

    private static void large() {
        checks.sentence("kind 8 \"x large\": x is setting 2 or more");
        dueAlone("large", 8, 1000, MOST);
        for (int setting : new int[] {0, 1, 99999, MOST}) {
            WishLimits x = of("e large");
            due("set(2, " + setting + ")", x.set(2, setting), 1000);
            dueRange(x, 4, setting, MOST);
        }
    }

    private static void doubtfulKinds() {
        checks.sentence("The kinds 4, 7 and 8 are doubtful");
        String[] kinds = {"a at least 5 mm", "a at most 5 mm", "a is 5 mm", "a from 5 mm to 5 mm",
            "a about 5 mm", "a below b", "a above b", "a small", "a large"};
        for (int kind = 0; kind < kinds.length; kind++) {
            boolean doubtful = kind == 4 || kind == 7 || kind == 8;
            due("doubtful ones of kind " + kind, of(kinds[kind]).count(1), doubtful ? 1 : 0);
        }
        due("of no sentence", new WishLimits().count(1), 0);
        due("of ten", Checks.tenOf("a about 0 mm").count(1), 10);
    }

    private static void asTheSettingsAreNow() {
        checks.sentence("what they mean goes with the settings, as they are now");
        WishLimits x = of("a about 1 m", "b small", "c large", "b is 101 mm");
        due("clash() at first", x.clash(), 10);
        due("set(1, 101)", x.set(1, 101), 100);
        due("clash() with 101", x.clash(), NONE);
        due("clashes() with 101", x.clashes(), 0);
        due("keep(0) with 101", x.keep(0), 15);
        due("count(2) with 101", x.count(2), 1);
        due("undo()", x.undo(), 3);
        due("clash() after undo", x.clash(), 10);
        due("keep(0) after undo", x.keep(0), 7);
        due("takeBack(3)", x.takeBack(3), 3);
        due("set(0, 20)", x.set(0, 20), 10);
        due("set(2, 1201)", x.set(2, 1201), 1000);
        due("sentenceOf(0, 6)", x.sentenceOf(0, 6), 800);
        due("range(0, 1)", x.range(0, 1), 1200);
        due("range(2, 0)", x.range(2, 0), 1201);
        due("broken", x.broken(799, 100, 1200, 0, 0), 5);
        due("with(0, 1200, 2)", x.with(0, 1200, 2), 1201);
        due("with(0, 1201, 2)", x.with(0, 1201, 2), CANNOT);
        due("reason(0, 1)", x.reason(0, 1), 1);
        Checks.write(x, "c about 1 m");
        due("could() with 20", x.could(), 0);
        due("set(0, 21)", x.set(0, 21), 20);
        due("could() with 21", x.could(), 1);
        due("set(0, 0)", x.set(0, 0), 21);
        due("count(3) with 0", x.count(3), 1);
    }

    private static void otherKindsKeepTheirMeaning() {
        WishLimits x = of("a at least 5 mm", "b at most 5 mm", "c is 5 mm", "d from 5 mm to 6 mm",
                "b below e", "a above b");
        x.set(0, 50);
        x.set(1, 0);
        x.set(2, MOST);
        int[] least = {5, 0, 5, 5, 1};
        int[] greatest = {MOST, 5, 5, 6, MOST};
        for (int length = 0; length < 5; length++) {
            due("the least of " + length, x.range(length, 0), least[length]);
            due("the greatest of " + length, x.range(length, 1), greatest[length]);
        }
    }

    private static void weightAtFirst() {
        checks.sentence("Each sentence has a weight, 1 at first.");
        WishLimits x = new WishLimits();
        for (int k = 0; k < 10; k++) {
            said(x, "a small");
            due("weight of " + k, x.sentenceOf(k, 5), 1);
        }
        due("all weights", x.keep(1), 10);
        due("weigh(9, 9)", x.weigh(9, 9), 1);
        due("takeBack(9)", x.takeBack(9), 9);
        due("say()", x.say(), 9);
        due("a new one where a heavy one was", x.sentenceOf(9, 5), 1);
        due("weigh(9, 8)", x.weigh(9, 8), 1);
        due("undo()", x.undo(), 3);
        due("undo()", x.undo(), 2);
        due("say()", x.say(), 9);
        due("a new one after undo", x.sentenceOf(9, 5), 1);
    }

    private static void together() {
        checks.sentence("Some sentences can be together if there is a value for each length with"
                + " which all of them hold.");
        due("none", new WishLimits().count(2), 1);
        String[][] pairs = {{"a at least 5 mm", "a at most 5 mm", "a at most 4 mm"},
            {"a is 5 mm", "a from 5 mm to 9 mm", "a from 6 mm to 9 mm"},
            {"a is 5 mm", "a from 0 mm to 5 mm", "a from 0 mm to 4 mm"},
            {"a about 10 mm", "a at least 11 mm", "a at least 12 mm"},
            {"a about 10 mm", "a at most 9 mm", "a at most 8 mm"},
            {"a small", "a is 100 mm", "a is 101 mm"},
            {"a large", "a is 1 m", "a is 999 mm"},
            {"a below b", "b at least 0 mm", "a is 100 m"},
            {"a above b", "b at most 99999 mm", "b at least 100 m"},
            {"a is 5 mm", "b is 4 mm", "a is 4 mm"}};
        for (String[] pair : pairs) {
            due(pair[0] + ", " + pair[1], of(pair[0], pair[1]).count(2), 1);
            due(pair[0] + ", " + pair[2], of(pair[0], pair[2]).count(2), 0);
            due(pair[2] + ", " + pair[0], of(pair[2], pair[0]).count(2), 0);
        }
        String[] chain = {"d below e", "d above c", "b below c", "b above a"};
        due("a chain of five", of(chain).count(2), 1);
        WishLimits x = of(chain);
        due("five apart", said(x, "e is 4 mm"), 4);
        due("just so", x.count(3), 5);
        due("a at least 1 mm", said(x, "a at least 1 mm"), 5);
        due("no more", x.count(2), 0);
    }

    private static void circles() {
        String[] circle = {"a below b", "b below c", "c below d", "d below e"};
        for (int many = 1; many <= 4; many++) {
            WishLimits x = new WishLimits();
            for (int k = 0; k < many; k++) {
                said(x, circle[k]);
            }
            due("no circle of " + many, x.count(2), 1);
            said(x, "a above " + LETTERS.charAt(many));
            due("a circle of " + (many + 1), x.count(2), 0);
            due("all of it", x.clash(), (1 << many + 1) - 1);
            due("and nothing else", x.clashes(), 1);
        }
        due("the same twice is no circle", of("a below b", "b above a").count(2), 1);
    }

    // ---- settings

    private static void settings() {
        checks.sentence("The settings are: 0 the percentage for \"about\" (0 to 50; 10), 1 the"
                + " greatest small length in mm (0 to 100000; 100), 2 the least large length in mm"
                + " (0 to 100000; 1000).");
        int[] first = {10, 100, 1000};
        int[] greatest = {50, MOST, MOST};
        for (int what = 0; what < 3; what++) {
            WishLimits x = new WishLimits();
            due("first value of " + what, x.count(20 + what), first[what]);
            due("the least of " + what, x.set(what, 0), first[what]);
            due("the greatest of " + what, x.set(what, greatest[what]), 0);
            due("too great", x.set(what, greatest[what] + 1), BAD);
            due("too small", x.set(what, -1), BAD);
            due("far too great", x.set(what, Integer.MAX_VALUE), BAD);
            due("far too small", x.set(what, Integer.MIN_VALUE), BAD);
            due("stays", x.count(20 + what), greatest[what]);
            for (int other = 0; other < 3; other++) {
                due("the other ones stay", x.count(20 + other),
                        other == what ? greatest[what] : first[other]);
            }
        }
        for (int what : new int[] {-1, 3, 20, 22, Integer.MIN_VALUE, Integer.MAX_VALUE}) {
            due("set(" + what + ", 5)", new WishLimits().set(what, 5), BAD);
        }
    }
}

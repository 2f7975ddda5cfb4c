/** The promises once more, clause by clause: each clause that names an edge has its own checks. */
public final class EdgesTest {
    private static final int BAD = WishLimits.INVALID_ARGUMENT;
    private static final int CANNOT = WishLimits.NOT_POSSIBLE;
    private static final int FULL = WishLimits.LIMIT_REACHED;
    private static final int NONE = WishLimits.NOT_FOUND;
    private static final int LEAST = Integer.MIN_VALUE;
    private static final int MOST = Integer.MAX_VALUE;
    private static final String[] KINDS = {"a at least 5 mm", "b at most 5 cm", "c is 5 m",
        "d from 5 mm to 5 cm", "e about 5 m", "a below e", "b above d", "c small", "d large"};

    private static final Checks checks = new Checks();

    public static void main(String[] args) {
        newObject();
        twoObjects();
        textStays();
        numberOfSaid();
        faultsAreNotSaid();
        tenAreSaid();
        howManyAreLeft();
        noneToTakeBack();
        weights();
        weightBefore();
        settingBefore();
        whatOfSentence();
        noSuchThing();
        aloneOfOrders();
        rangeWhat();
        rangeOfOneValue();
        rangeByAllSentences();
        rangeByTenOrders();
        rangeOfClash();
        middleAsFloat();
        middleAtEnds();
        middleUnit();
        middleOfClash();
        fewestReasons();
        lowestReasons();
        noReasonNeeded();
        onlyOnes();
        reasonOfClash();
        fewestClash();
        lowestClash();
        noClash();
        leftOutAny();
        noClashes();
        greatestWeight();
        lowestKept();
        keepWhat();
        couldBeSaid();
        couldOfFault();
        couldOfClash();
        brokenOnes();
        brokenByWrongValues();
        leastWith();
        valueItself();
        withWrongArguments();
        withNotPossible();
        counts();
        countWhat();
        countOfOneValue();
        statesLeft();
        nothingToUndo();
        characters();
        fortyCharacters();
        lengthBefore();
        faultWhat();
        checks.end();
    }

    private static void due(String call, long got, long want) {
        checks.due(call, got, want);
    }

    private static WishLimits of(String... sentences) {
        return Checks.of(sentences);
    }

    private static int said(WishLimits x, String text) {
        return Checks.said(x, text);
    }

    // ---- sentences

    private static void newObject() {
        checks.sentence("Promise 1: Creates lengths without wishes.");
        WishLimits x = new WishLimits();
        for (int length = 0; length < 5; length++) {
            due("range(.., 0)", x.range(length, 0), 0);
            due("range(.., 1)", x.range(length, 1), 100000);
            due("middle(.., 0)", x.middle(length, 0), Float.floatToIntBits(50000f));
            due("reason(.., 0)", x.reason(length, 0), 0);
            due("reason(.., 1)", x.reason(length, 1), 0);
            due("with(.., 100000, ..)", x.with(length, 100000, (length + 1) % 5), 0);
        }
        int[] what = {0, 1, 2, 3, 4, 5, 20, 21, 22};
        int[] want = {0, 0, 1, 0, 0, 0, 10, 100, 1000};
        for (int k = 0; k < what.length; k++) {
            due("count(" + what[k] + ")", x.count(what[k]), want[k]);
        }
        due("clash()", x.clash(), NONE);
        due("clashes()", x.clashes(), 0);
        due("keep(0)", x.keep(0), 0);
        due("keep(1)", x.keep(1), 0);
        due("could()", x.could(), CANNOT);
        due("broken", x.broken(0, 0, 0, 0, 0), 0);
        due("broken", x.broken(100000, 100000, 100000, 100000, 100000), 0);
        due("say()", x.say(), CANNOT);
        due("takeBack(0)", x.takeBack(0), BAD);
        due("weigh(0, 1)", x.weigh(0, 1), BAD);
        due("sentenceOf(0, 0)", x.sentenceOf(0, 0), BAD);
        due("undo()", x.undo(), CANNOT);
        due("fault(0)", x.fault(0), 0);
        due("fault(1)", x.fault(1), 1);
        due("clearText()", x.clearText(), 0);
    }

    private static void twoObjects() {
        WishLimits one = of("a is 5 mm");
        one.set(0, 50);
        one.type('!');
        WishLimits other = new WishLimits();
        due("sentences", other.count(0), 0);
        due("states", other.count(4), 0);
        due("text", other.count(5), 0);
        due("setting", other.count(20), 10);
        said(other, "b small");
        due("the one's sentences", one.count(0), 1);
        due("the one's text", one.fault(0), 9);
        due("the one's value", one.range(0, 1), 5);
    }

    private static void textStays() {
        checks.sentence("Promise 2: Says the sentence of the text, which stays.");
        for (String kind : KINDS) {
            WishLimits x = new WishLimits();
            due(kind, said(x, kind), 0);
            due("its length", x.count(5), kind.length());
            due("it can be said again", x.say(), 1);
            for (int what = 0; what <= 8; what++) {
                due("the same: " + what, x.sentenceOf(1, what), x.sentenceOf(0, what));
            }
            due("type('~')", x.type('~'), kind.length() + 1);
            due("at its end", x.fault(0), kind.length());
        }
    }

    private static void numberOfSaid() {
        checks.sentence("Promise 2: Returns its number");
        WishLimits x = new WishLimits();
        for (int k = 0; k < 10; k++) {
            due("say()", said(x, KINDS[k % 9]), k);
            due("its kind", x.sentenceOf(k, 0), k % 9);
        }
        due("takeBack(4)", x.takeBack(4), 9);
        due("say()", said(x, "a is 77 mm"), 9);
        due("it is the last", x.sentenceOf(9, 2), 77);
    }

    private static void faultsAreNotSaid() {
        checks.sentence("Promise 2: NOT_POSSIBLE if the text has a fault");
        WishLimits x = new WishLimits();
        due("no text", x.say(), CANNOT);
        String[] faults = {"a", "a is 5", "a is 5 mmm", "a is 0.5 mm", "a is 100001 mm",
            "a from 2 mm to 1 mm", "a below a", "e above e"};
        for (String fault : faults) {
            due(fault, said(x, fault), CANNOT);
            due("none is said", x.count(0), 0);
            due("nothing to undo", x.count(4), 0);
        }
    }

    private static void tenAreSaid() {
        checks.sentence("Promise 2: LIMIT_REACHED if there are 10");
        WishLimits x = of("a small");
        for (int k = 1; k < 10; k++) {
            due("say()", x.say(), k);
        }
        due("an eleventh", x.say(), FULL);
        due("sentences", x.count(0), 10);
        due("takeBack(0)", x.takeBack(0), 9);
        due("a tenth", x.say(), 9);
        due("an eleventh", x.say(), FULL);
    }

    private static void howManyAreLeft() {
        checks.sentence("Promise 3: Returns how many there are then");
        WishLimits last = Checks.tenOf("b large");
        WishLimits first = Checks.tenOf("b large");
        for (int left = 9; left >= 0; left--) {
            due("takeBack(" + left + ")", last.takeBack(left), left);
            due("count(0)", last.count(0), left);
            due("takeBack(0)", first.takeBack(0), left);
            due("count(0)", first.count(0), left);
        }
    }

    private static void noneToTakeBack() {
        checks.sentence("Promise 3: INVALID_ARGUMENT");
        WishLimits x = of("a small", "b small");
        for (int wrong : new int[] {-1, 2, 3, 9, 10, LEAST, MOST}) {
            due("takeBack(" + wrong + ")", x.takeBack(wrong), BAD);
        }
        due("takeBack(1)", x.takeBack(1), 1);
        due("takeBack(1)", x.takeBack(1), BAD);
        due("takeBack(0)", x.takeBack(0), 0);
        due("takeBack(0)", x.takeBack(0), BAD);
    }

    private static void weights() {
        checks.sentence("Promise 4: weight: 1 to 9; INVALID_ARGUMENT if an argument is out of range");
        WishLimits x = of("a small");
        int before = 1;
        for (int weight = 1; weight <= 9; weight++) {
            due("weigh(0, " + weight + ")", x.weigh(0, weight), before);
            due("its weight", x.sentenceOf(0, 5), weight);
            before = weight;
        }
        for (int wrong : new int[] {0, 10, -1, -9, 11, 257, 65537, LEAST, MOST}) {
            due("weigh(0, " + wrong + ")", x.weigh(0, wrong), BAD);
        }
        for (int wrong : new int[] {-1, 1, 2, 10, LEAST, MOST}) {
            due("weigh(" + wrong + ", 5)", x.weigh(wrong, 5), BAD);
        }
        due("its weight stays", x.sentenceOf(0, 5), 9);
    }

    private static void weightBefore() {
        checks.sentence("Promise 4: Returns what it was");
        WishLimits x = Checks.tenOf("a small");
        for (int k = 0; k < 10; k++) {
            due("weigh(" + k + ", ..)", x.weigh(k, 9 - k % 9), 1);
        }
        for (int k = 9; k >= 0; k--) {
            due("weigh(" + k + ", 2)", x.weigh(k, 2), 9 - k % 9);
        }
        due("all", x.keep(1), 20);
        due("undo()", x.undo(), 3);
        due("what it was", x.weigh(0, 1), 9);
    }

    private static void settingBefore() {
        checks.sentence("Promise 5: Returns what it was; INVALID_ARGUMENT if an argument is out of"
                + " range.");
        WishLimits x = new WishLimits();
        int[] first = {10, 100, 1000};
        int[] greatest = {50, 100000, 100000};
        for (int what = 0; what < 3; what++) {
            due("the first value", x.set(what, greatest[what]), first[what]);
            due("the greatest value", x.set(what, greatest[what]), greatest[what]);
            due("too great", x.set(what, greatest[what] + 1), BAD);
            due("the greatest value still", x.set(what, 0), greatest[what]);
            due("too small", x.set(what, -1), BAD);
            due("the least value still", x.set(what, 1), 0);
        }
        for (int wrong : new int[] {-1, 3, 4, 20, LEAST, MOST}) {
            due("set(" + wrong + ", 0)", x.set(wrong, 0), BAD);
        }
    }

    private static void whatOfSentence() {
        checks.sentence("Promise 6: what: 0 to 8; INVALID_ARGUMENT if an argument is out of range");
        WishLimits x = of(KINDS);
        for (int k = 0; k < 9; k++) {
            due("what 0", x.sentenceOf(k, 0), k);
            due("what 5", x.sentenceOf(k, 5), 1);
            for (int wrong : new int[] {-1, 9, 20, LEAST, MOST}) {
                due("what " + wrong, x.sentenceOf(k, wrong), BAD);
            }
        }
        for (int wrong : new int[] {-1, 9, 10, LEAST, MOST}) {
            for (int what = -1; what <= 9; what++) {
                due("sentenceOf(" + wrong + ", " + what + ")", x.sentenceOf(wrong, what), BAD);
            }
        }
    }

    private static void noSuchThing() {
        checks.sentence("Promise 6: NOT_FOUND for 2, 3, 4 and 8 if it has no such thing");
        WishLimits x = of(KINDS);
        int[] v = {5, 50, 5000, 5, 5000, NONE, NONE, NONE, NONE};
        int[] w = {NONE, NONE, NONE, 50, NONE, NONE, NONE, NONE, NONE};
        int[] y = {NONE, NONE, NONE, NONE, NONE, 4, 3, NONE, NONE};
        int[] unit = {0, 1, 2, 0, 2, NONE, NONE, NONE, NONE};
        for (int k = 0; k < 9; k++) {
            due("v of kind " + k, x.sentenceOf(k, 2), v[k]);
            due("w of kind " + k, x.sentenceOf(k, 3), w[k]);
            due("y of kind " + k, x.sentenceOf(k, 4), y[k]);
            due("unit of kind " + k, x.sentenceOf(k, 8), unit[k]);
        }
        // Rows that served another kind before.
        WishLimits again = of("a from 5 cm to 6 m", "b above e");
        due("takeBack(0)", again.takeBack(0), 1);
        due("takeBack(0)", again.takeBack(0), 0);
        due("say()", said(again, "e large"), 0);
        due("say()", said(again, "d is 0 mm"), 1);
        for (int what : new int[] {2, 3, 4, 8}) {
            due("of large: " + what, again.sentenceOf(0, what), NONE);
        }
        due("of is: w", again.sentenceOf(1, 3), NONE);
        due("of is: y", again.sentenceOf(1, 4), NONE);
        due("of is: v", again.sentenceOf(1, 2), 0);
        due("of is: unit", again.sentenceOf(1, 8), 0);
    }

    private static void aloneOfOrders() {
        checks.sentence("Promise 6: the least and the greatest that x is by it alone (with kinds 5"
                + " and 6: y being any length)");
        WishLimits x = of("a below b", "a above c", "b is 9 mm", "c is 7 mm", "a is 8 mm");
        due("below, least", x.sentenceOf(0, 6), 0);
        due("below, greatest", x.sentenceOf(0, 7), 99999);
        due("above, least", x.sentenceOf(1, 6), 1);
        due("above, greatest", x.sentenceOf(1, 7), 100000);
        due("is, least", x.sentenceOf(2, 6), 9);
        due("is, greatest", x.sentenceOf(2, 7), 9);
        due("by all", x.count(3), 3);
        due("a clash", said(x, "a is 50 mm"), 5);
        due("by it alone, least", x.sentenceOf(5, 6), 50);
        due("by it alone, greatest", x.sentenceOf(4, 7), 8);
    }

    // ---- ranges

    private static void rangeWhat() {
        checks.sentence("Promise 7: what: 0: the least one; 1: the greatest one; INVALID_ARGUMENT if"
                + " an argument is out of range");
        WishLimits x = of("e from 5 mm to 7 mm");
        due("range(4, 0)", x.range(4, 0), 5);
        due("range(4, 1)", x.range(4, 1), 7);
        for (int wrong : new int[] {-1, 2, 3, LEAST, MOST}) {
            due("range(4, " + wrong + ")", x.range(4, wrong), BAD);
        }
        for (int wrong : new int[] {-1, 5, 6, LEAST, MOST}) {
            due("range(" + wrong + ", 0)", x.range(wrong, 0), BAD);
            due("range(" + wrong + ", 1)", x.range(wrong, 1), BAD);
        }
    }

    private static void rangeOfOneValue() {
        checks.sentence("Promise 7: which values it can have");
        for (int value : new int[] {0, 1, 99999, 100000}) {
            WishLimits x = of("c is " + value + " mm");
            due("the least", x.range(2, 0), value);
            due("the greatest", x.range(2, 1), value);
            x = of("c at least " + value + " mm", "c at most " + value + " mm");
            due("the least", x.range(2, 0), value);
            due("the greatest", x.range(2, 1), value);
        }
        due("the least", of("c at least 100 m").range(2, 0), 100000);
        due("the greatest", of("c at most 0 mm").range(2, 1), 0);
    }

    private static void rangeByAllSentences() {
        checks.sentence("Promise 7: if all sentences hold");
        // Each order must be gone through more than once, whichever is said first.
        String[][] chains = {{"a below b", "b below c", "c below d", "d below e"},
            {"d below e", "c below d", "b below c", "a below b"},
            {"e above d", "b above a", "d above c", "c above b"},
            {"c below d", "a below b", "e above d", "c above b"}};
        for (String[] chain : chains) {
            WishLimits x = of(chain);
            for (int length = 0; length < 5; length++) {
                due("the least", x.range(length, 0), length);
                due("the greatest", x.range(length, 1), 99996 + length);
            }
            said(x, "a at least 10 mm");
            said(x, "e at most 15 mm");
            for (int length = 0; length < 5; length++) {
                due("the least", x.range(length, 0), 10 + length);
                due("the greatest", x.range(length, 1), 11 + length);
            }
            said(x, "c is 13 mm");
            due("above the middle one", x.range(3, 0), 14);
            due("above the middle one", x.range(4, 0), 15);
            due("below the middle one", x.range(0, 0), 10);
            due("below the middle one", x.range(1, 0), 11);
        }
        WishLimits x = of("a at least 1 cm", "a at least 2 cm", "a at most 5 cm", "a at most 4 cm",
                "a from 5 mm to 3 cm", "a about 28 mm");
        due("the most narrow least", x.range(0, 0), 26);
        due("the most narrow greatest", x.range(0, 1), 30);
    }

    private static void rangeByTenOrders() {
        String[] same = {"a below b", "b above a"};
        WishLimits x = new WishLimits();
        for (int k = 0; k < 9; k++) {
            said(x, same[k % 2]);
        }
        due("the tenth", said(x, "b below c"), 9);
        due("by the tenth", x.range(2, 0), 2);
        due("by the tenth", x.range(1, 1), 99999);
        due("its reason", x.reason(2, 0), 513);
        Checks.write(x, "c below a");
        due("an eleventh", x.could(), 0);
        Checks.write(x, "c below d");
        due("an eleventh", x.could(), 1);
        due("undo() of the tenth", x.undo(), 3);
        due("the tenth", said(x, "a above b"), 9);
        due("by the tenth", x.count(2), 0);
        due("by the tenth", x.clash(), 513);
        due("each of nine with the tenth", x.clashes(), 9);
    }

    private static void rangeOfClash() {
        checks.sentence("Promise 7: NOT_POSSIBLE if all sentences cannot be together");
        WishLimits x = of("e is 5 mm", "e is 6 mm");
        for (int length = 0; length < 5; length++) {
            due("range(" + length + ", 0)", x.range(length, 0), CANNOT);
            due("range(" + length + ", 1)", x.range(length, 1), CANNOT);
        }
        due("takeBack(1)", x.takeBack(1), 1);
        due("range(4, 0)", x.range(4, 0), 5);
        due("undo()", x.undo(), 2);
        due("range(4, 0)", x.range(4, 0), CANNOT);
    }

    private static void middleAsFloat() {
        checks.sentence("Promise 8: the least and the greatest value, as floats in mm, added,"
                + " divided by 2 times the millimeters of the unit");
        int[][] ends = {{0, 0}, {0, 1}, {1, 1}, {1, 2}, {3, 4}, {7, 7}, {0, 100000}, {99999, 100000},
            {100000, 100000}, {33333, 66667}, {1, 99999}, {12345, 67890}, {499, 502}, {0, 3},
            {16383, 16385}, {65535, 65537}, {131, 74002}};
        int[] millimeters = {1, 10, 1000};
        for (int[] end : ends) {
            WishLimits x = of("b from " + end[0] + " mm to " + end[1] + " mm");
            for (int unit = 0; unit < 3; unit++) {
                float want = ((float) end[0] + (float) end[1]) / (float) (2 * millimeters[unit]);
                due("middle(1, " + unit + ")", x.middle(1, unit), Float.floatToIntBits(want));
            }
        }
    }

    private static void middleAtEnds() {
        WishLimits x = of("a is 0 mm", "b is 100 m", "c from 0 mm to 1 mm", "d is 1 mm");
        due("0 in mm", x.middle(0, 0), 0);
        due("0 in m", x.middle(0, 2), 0);
        due("100000 in mm", x.middle(1, 0), 0x47c35000);
        due("100 in m", x.middle(1, 2), 0x42c80000);
        due("a half", x.middle(2, 0), 0x3f000000);
        due("a twentieth", x.middle(2, 1), 0x3d4ccccd);
        due("1 in mm", x.middle(3, 0), 0x3f800000);
        due("a thousandth", x.middle(3, 2), 0x3a83126f);
        due("of all", x.middle(4, 0), 0x47435000);
    }

    private static void middleUnit() {
        checks.sentence("Promise 8: unit: 0 to 2; INVALID_ARGUMENT if an argument is out of range");
        WishLimits x = of("e is 5 mm");
        due("unit 0", x.middle(4, 0), Float.floatToIntBits(5f));
        due("unit 2", x.middle(4, 2), Float.floatToIntBits(0.005f));
        for (int wrong : new int[] {-1, 3, 4, LEAST, MOST}) {
            due("middle(4, " + wrong + ")", x.middle(4, wrong), BAD);
        }
        for (int wrong : new int[] {-1, 5, LEAST, MOST}) {
            due("middle(" + wrong + ", 0)", x.middle(wrong, 0), BAD);
        }
    }

    private static void middleOfClash() {
        checks.sentence("Promise 8: NOT_POSSIBLE if all sentences cannot be together");
        WishLimits x = of("e is 5 mm", "a below b", "b below a");
        for (int length = 0; length < 5; length++) {
            due("middle(" + length + ", 1)", x.middle(length, 1), CANNOT);
        }
        due("takeBack(2)", x.takeBack(2), 2);
        due("middle(4, 0)", x.middle(4, 0), Float.floatToIntBits(5f));
    }

    private static void fewestReasons() {
        checks.sentence("Promise 9: the fewest sentences by which, were they the only ones, this end"
                + " would be the same");
        WishLimits x = of("a at least 5 mm", "b above a", "c above b", "c at least 6 mm",
                "c at least 7 mm");
        due("one rather than three", x.reason(2, 0), 16);
        due("two", x.reason(1, 0), 3);
        due("one", x.reason(0, 0), 1);
        due("takeBack(4)", x.takeBack(4), 4);
        due("three", x.reason(2, 0), 7);
        due("c at least 8 mm", said(x, "c at least 8 mm"), 4);
        due("the greater one", x.reason(2, 0), 16);
        WishLimits chain = of("e below d", "d below c", "c below b", "b below a", "a at most 9 mm");
        due("five for a greatest", chain.reason(4, 1), 31);
        due("four for a least", chain.reason(0, 0), 15);
        due("one for a least", chain.reason(3, 0), 1);
        due("one for a greatest", chain.reason(0, 1), 16);
        WishLimits orders = of("a below b", "c below b", "a above c");
        due("two orders", orders.reason(1, 0), 5);
        due("two orders", orders.reason(2, 1), 5);
        due("one order", orders.reason(0, 0), 4);
    }

    private static void lowestReasons() {
        checks.sentence("Promise 9: of several such sets the lowest");
        WishLimits x = Checks.tenOf("a is 5 mm");
        due("one of ten", x.reason(0, 0), 1);
        due("one of ten", x.reason(0, 1), 1);
        WishLimits y = of("b at least 4 mm", "a above b", "a above b", "b at least 4 mm");
        due("of four pairs", y.reason(0, 0), 3);
        due("takeBack(0)", y.takeBack(0), 3);
        due("of two pairs", y.reason(0, 0), 5);
        WishLimits z = of("a above b", "a above c", "c is 4 mm", "b is 4 mm");
        due("6 is lower than 9", z.reason(0, 0), 6);
        WishLimits top = of("a at most 9 mm", "a at most 8 mm", "a at most 7 mm", "a from 0 mm to 7 mm");
        due("the lower one of the last two", top.reason(0, 1), 4);
    }

    private static void noReasonNeeded() {
        checks.sentence("Promise 9: 0 if it is 0, or 100000, without any");
        String[] leasts = {"a at least 0 mm", "a at most 5 mm", "a is 0 mm", "a from 0 mm to 5 mm",
            "a about 0 mm", "a below b", "a small"};
        for (String text : leasts) {
            due("the least of " + text, of(text).reason(0, 0), 0);
        }
        String[] greatests = {"a at least 5 mm", "a at most 100 m", "a is 100 m",
            "a from 5 mm to 100 m", "a about 100 m", "a about 90910 mm", "a above b", "a large"};
        for (String text : greatests) {
            due("the greatest of " + text, of(text).reason(0, 1), 0);
        }
        due("the greatest by one", of("a about 90909 mm").reason(0, 1), 1);
        due("the greatest by one", of("a at most 99999 mm").reason(0, 1), 1);
        due("the least by one", of("a at least 1 mm").reason(0, 0), 1);
        due("the least of 100000", of("a is 100 m").reason(0, 0), 1);
        due("the greatest of 0", of("a is 0 mm").reason(0, 1), 1);
        WishLimits x = of("a small", "b large");
        x.set(1, 100000);
        x.set(2, 0);
        due("small is all", x.reason(0, 1), 0);
        due("large is all", x.reason(1, 0), 0);
        due("another length", x.reason(4, 1), 0);
    }

    private static void onlyOnes() {
        WishLimits x = of("a below b", "b at most 9 mm", "b at most 7 mm", "a at most 6 mm",
                "a at least 2 mm", "b at least 3 mm");
        due("one alone", x.reason(0, 1), 8);
        due("takeBack(3)", x.takeBack(3), 5);
        due("two together", x.reason(0, 1), 5);
        due("one of two ways", x.reason(1, 0), 16);
        due("takeBack(4)", x.takeBack(4), 4);
        due("the other way", x.reason(1, 0), 9);
    }

    private static void reasonOfClash() {
        checks.sentence("Promise 9: INVALID_ARGUMENT if an argument is out of range; NOT_POSSIBLE if"
                + " all sentences cannot be together");
        WishLimits x = of("a is 5 mm", "b is 5 mm");
        for (int wrong : new int[] {-1, 2, LEAST, MOST}) {
            due("reason(0, " + wrong + ")", x.reason(0, wrong), BAD);
        }
        for (int wrong : new int[] {-1, 5, LEAST, MOST}) {
            due("reason(" + wrong + ", 1)", x.reason(wrong, 1), BAD);
        }
        due("a above b", said(x, "a above b"), 2);
        for (int length = 0; length < 5; length++) {
            due("reason(" + length + ", 0)", x.reason(length, 0), CANNOT);
            due("reason(" + length + ", 1)", x.reason(length, 1), CANNOT);
        }
    }

    // ---- contradictions

    private static void fewestClash() {
        checks.sentence("Promise 10: Finds the fewest sentences that cannot be together");
        WishLimits x = of("a at least 6 mm", "a below b", "b below c", "c below d", "d below e",
                "e at most 9 mm");
        due("all six", x.clash(), 63);
        due("takeBack(5)", x.takeBack(5), 5);
        due("none", x.clash(), NONE);
        due("c at most 7 mm", said(x, "c at most 7 mm"), 5);
        due("four", x.clash(), 39);
        due("d below a", said(x, "d below a"), 6);
        due("the lower one of two of four", x.clash(), 39);
        due("b at most 6 mm", said(x, "b at most 6 mm"), 7);
        due("three", x.clash(), 131);
        due("a small below 6", x.set(1, 5), 100);
        due("a small", said(x, "a small"), 8);
        due("two", x.clash(), 257);
        WishLimits ends = of("a above b", "b is 100 m", "c below d", "d is 0 mm");
        due("an order at an end", ends.clash(), 3);
        due("takeBack(0)", ends.takeBack(0), 3);
        due("an order at the other end", ends.clash(), 6);
        due("a chain at both ends", of("a below b", "b below c", "c below d", "d below e",
                "a at least 99997 mm").clash(), 31);
    }

    private static void lowestClash() {
        checks.sentence("Promise 10: of several such sets the lowest");
        WishLimits x = new WishLimits();
        for (int k = 0; k < 10; k++) {
            said(x, "a is " + k + " mm");
        }
        for (int left = 9; left >= 1; left--) {
            due("the first two", x.clash(), 3);
            due("takeBack(0)", x.takeBack(0), left);
        }
        due("one alone", x.clash(), NONE);
        due("6 is lower than 9", of("a is 1 mm", "b is 1 mm", "b is 2 mm", "a is 2 mm").clash(), 6);
        due("5 is lower than 10", of("a is 1 mm", "b is 1 mm", "a is 2 mm", "b is 2 mm").clash(), 5);
    }

    private static void noClash() {
        checks.sentence("Promise 10: NOT_FOUND if all sentences can be together");
        due("none said", new WishLimits().clash(), NONE);
        due("ten", Checks.tenOf("a below b").clash(), NONE);
        for (String kind : KINDS) {
            due(kind, of(kind).clash(), NONE);
        }
        WishLimits x = of("a large", "a small");
        due("a clash", x.clash(), 3);
        due("set(1, 1000)", x.set(1, 1000), 100);
        due("no clash", x.clash(), NONE);
    }

    private static void leftOutAny() {
        checks.sentence("Promise 11: Counts the sets of sentences that cannot be together, but can if"
                + " any one of them is left out.");
        WishLimits x = of("a is 1 mm", "a is 2 mm");
        due("one", x.clashes(), 1);
        due("a is 1 mm", said(x, "a is 1 mm"), 2);
        due("two, not all three", x.clashes(), 2);
        due("a is 3 mm", said(x, "a is 3 mm"), 3);
        due("each two that differ", x.clashes(), 5);
        due("b small", said(x, "b small"), 4);
        due("another one adds none", x.clashes(), 5);
        due("another one ahead adds none", of("b small", "a is 1 mm", "a is 2 mm").clashes(), 1);
        due("another one between adds none", of("a is 1 mm", "b small", "a is 2 mm").clashes(), 1);
        due("nor do others", of("b small", "c small", "a is 1 mm", "d below c", "a is 2 mm",
                "b at most 9 mm").clashes(), 1);
        WishLimits halves = new WishLimits();
        for (int k = 0; k < 10; k++) {
            said(halves, "a is " + k / 5 + " mm");
        }
        due("five times five", halves.clashes(), 25);
        due("six", of("a at least 6 mm", "a below b", "b below c", "c below d", "d below e",
                "e at most 9 mm").clashes(), 1);
        due("two ways", of("a at least 6 mm", "a below b", "b below c", "a below d", "d below c",
                "c at most 7 mm").clashes(), 2);
    }

    private static void noClashes() {
        due("none said", new WishLimits().clashes(), 0);
        due("one said", of("a below b").clashes(), 0);
        due("ten", Checks.tenOf("a below b").clashes(), 0);
    }

    private static void greatestWeight() {
        checks.sentence("Promise 12: Finds the sentences that can be together whose weights together"
                + " are greatest");
        WishLimits x = new WishLimits();
        for (int k = 0; k < 10; k++) {
            said(x, "a is " + (k == 0 ? 1 : 2) + " mm");
        }
        due("nine rather than one", x.keep(0), 1022);
        due("their weight", x.keep(1), 9);
        due("weigh(0, 9)", x.weigh(0, 9), 1);
        due("as heavy: the lower one", x.keep(0), 1);
        due("their weight", x.keep(1), 9);
        due("weigh(9, 2)", x.weigh(9, 2), 1);
        due("ten rather than nine", x.keep(0), 1022);
        due("their weight", x.keep(1), 10);
        due("none said", new WishLimits().keep(0), 0);
        due("no weight", new WishLimits().keep(1), 0);
        WishLimits all = Checks.tenOf("a small");
        for (int k = 0; k < 10; k++) {
            due("weigh(" + k + ", 9)", all.weigh(k, 9), 1);
            due("all", all.keep(0), 1023);
            due("their weight", all.keep(1), 10 + 8 * (k + 1));
        }
    }

    private static void lowestKept() {
        checks.sentence("Promise 12: of several such sets the lowest");
        WishLimits x = of("a is 1 mm", "a is 2 mm", "a is 3 mm");
        due("the first", x.keep(0), 1);
        due("weigh(2, 2)", x.weigh(2, 2), 1);
        due("the heaviest", x.keep(0), 4);
        due("weigh(1, 2)", x.weigh(1, 2), 1);
        due("the lower one", x.keep(0), 2);
        WishLimits y = of("a below b", "b below c", "c below a");
        due("the first two", y.keep(0), 3);
        due("weigh(2, 3)", y.weigh(2, 3), 1);
        due("the third and the first", y.keep(0), 5);
        due("their weight", y.keep(1), 4);
    }

    private static void keepWhat() {
        checks.sentence("Promise 12: what: 0: the set; 1: the weight; INVALID_ARGUMENT if what is out"
                + " of range");
        WishLimits x = of("a small", "a large");
        due("weigh(1, 7)", x.weigh(1, 7), 1);
        due("keep(0)", x.keep(0), 2);
        due("keep(1)", x.keep(1), 7);
        for (int wrong : new int[] {-1, 2, 3, LEAST, MOST}) {
            due("keep(" + wrong + ")", x.keep(wrong), BAD);
        }
    }

    private static void couldBeSaid() {
        checks.sentence("Promise 13: whether it can be together with all sentences. Returns 1 if it"
                + " can, otherwise 0");
        WishLimits x = of("a from 5 mm to 7 mm");
        String[] texts = {"a at most 4 mm", "a at most 5 mm", "a at least 7 mm", "a at least 8 mm",
            "a is 4 mm", "a is 5 mm", "a is 7 mm", "a is 8 mm", "a large", "a small", "b is 4 mm"};
        int[] due = {0, 1, 1, 0, 0, 1, 1, 0, 0, 1, 1};
        for (int k = 0; k < texts.length; k++) {
            Checks.write(x, texts[k]);
            due(texts[k], x.could(), due[k]);
        }
        due("none of them is said", x.count(0), 1);
        due("no change", x.count(4), 1);
        due("the range stays", x.range(0, 1), 7);
        WishLimits ten = of("a below b", "b below c", "c below d", "d below e", "a at least 5 mm",
                "a at least 5 mm", "a at least 5 mm", "a at least 5 mm", "a at least 5 mm",
                "e at most 10 mm");
        String[] elevenths = {"a is 6 mm", "a is 7 mm", "e is 9 mm", "e is 8 mm", "e above a",
            "e below a", "c small", "c large"};
        int[] dueThen = {1, 0, 1, 0, 1, 0, 1, 0};
        for (int k = 0; k < elevenths.length; k++) {
            Checks.write(ten, elevenths[k]);
            due("ten, and " + elevenths[k], ten.could(), dueThen[k]);
        }
        due("ten are left", ten.count(0), 10);
    }

    private static void couldOfFault() {
        checks.sentence("Promise 13: NOT_POSSIBLE if the text has a fault");
        WishLimits x = of("a small");
        for (String text : new String[] {"", "a", "a smal", "a smallx", "a is 0.5 mm", "a is 101 m",
            "a from 2 mm to 1 mm", "b below b"}) {
            Checks.write(x, text);
            due("\"" + text + "\"", x.could(), CANNOT);
        }
    }

    private static void couldOfClash() {
        checks.sentence("Promise 13: NOT_POSSIBLE if all sentences cannot be together without it");
        WishLimits x = of("a small", "a large");
        due("a large", x.could(), CANNOT);
        Checks.write(x, "e is 5 mm");
        due("another length", x.could(), CANNOT);
        due("takeBack(1)", x.takeBack(1), 1);
        due("another length", x.could(), 1);
    }

    // ---- values that are told

    private static void brokenOnes() {
        checks.sentence("Promise 14: Returns the set of sentences that do not hold");
        WishLimits x = of("a at least 5 mm", "b at most 5 mm", "c is 5 mm", "d from 5 mm to 6 mm",
                "e about 10 mm", "a below b", "c above d", "d small", "e large", "e below a");
        due("just so", x.broken(5, 5, 5, 5, 9), 32 + 64 + 256 + 512);
        due("just so", x.broken(5, 5, 5, 6, 11), 32 + 64 + 256 + 512);
        due("one beside", x.broken(4, 6, 4, 4, 8), 1 + 2 + 4 + 8 + 16 + 64 + 256 + 512);
        due("one beside", x.broken(4, 6, 6, 7, 12), 1 + 2 + 4 + 8 + 16 + 64 + 256 + 512);
        due("the orders", x.broken(5, 6, 6, 5, 4), 2 + 4 + 16 + 256);
        due("all greatest", x.broken(100000, 100000, 100000, 100000, 100000), 2 + 4 + 8 + 16 + 32
                + 64 + 128 + 512);
        due("all least", x.broken(0, 0, 0, 0, 0), 1 + 4 + 8 + 16 + 32 + 64 + 256 + 512);
        due("each length for itself", of("a is 1 mm", "b is 2 mm", "c is 3 mm", "d is 4 mm",
                "e is 5 mm").broken(1, 2, 3, 4, 5), 0);
        due("none said", new WishLimits().broken(1, 2, 3, 4, 5), 0);
        due("of a clash", of("a is 1 mm", "a is 2 mm").broken(1, 0, 0, 0, 0), 2);
    }

    private static void brokenByWrongValues() {
        checks.sentence("Promise 14: 0 to 100000; INVALID_ARGUMENT if an argument is out of range");
        WishLimits x = of("a small");
        for (int wrong : new int[] {-1, 100001, LEAST, MOST}) {
            due("first " + wrong, x.broken(wrong, 5, 5, 5, 5), BAD);
            due("second " + wrong, x.broken(5, wrong, 5, 5, 5), BAD);
            due("third " + wrong, x.broken(5, 5, wrong, 5, 5), BAD);
            due("fourth " + wrong, x.broken(5, 5, 5, wrong, 5), BAD);
            due("fifth " + wrong, x.broken(5, 5, 5, 5, wrong), BAD);
        }
        due("the least ones", x.broken(0, 0, 0, 0, 0), 0);
        due("the greatest ones", x.broken(100000, 100000, 100000, 100000, 100000), 1);
    }

    private static void leastWith() {
        checks.sentence("Promise 15: Returns the least value of the other length, if the first one"
                + " has this value");
        WishLimits x = of("a below b", "b below c", "c below d", "d below e");
        for (int other = 0; other < 5; other++) {
            due("with the lowest, the least", x.with(0, 0, other), other);
            due("with the lowest, the greatest", x.with(0, 99996, other), 99996 + other);
            due("with the highest, the least", x.with(4, 4, other), other);
            due("with the highest, the greatest", x.with(4, 100000, other), other == 4 ? 100000 : other);
            due("with the middle one", x.with(2, 7, other), other < 2 ? other : 5 + other);
        }
        WishLimits y = of("a from 5 mm to 9 mm", "b above a", "b at least 7 mm");
        due("with(0, 5, 1)", y.with(0, 5, 1), 7);
        due("with(0, 6, 1)", y.with(0, 6, 1), 7);
        due("with(0, 7, 1)", y.with(0, 7, 1), 8);
        due("with(1, 7, 0)", y.with(1, 7, 0), 5);
        due("with(1, 100000, 0)", y.with(1, 100000, 0), 5);
        due("with(4, 100000, 0)", y.with(4, 100000, 0), 5);
    }

    private static void valueItself() {
        checks.sentence("Promise 15: the value itself, if both are the same");
        WishLimits x = of("a from 5 mm to 9 mm", "b above a", "b at most 8 mm");
        for (int value = 4; value <= 8; value++) {
            due("with(0, " + value + ", 0)", x.with(0, value, 0),
                    value >= 5 && value <= 7 ? value : CANNOT);
            due("with(1, " + value + ", 1)", x.with(1, value, 1), value >= 6 ? value : CANNOT);
        }
        due("the least", x.with(2, 0, 2), 0);
        due("the greatest", x.with(2, 100000, 2), 100000);
    }

    private static void withWrongArguments() {
        checks.sentence("Promise 15: INVALID_ARGUMENT if an argument is out of range");
        WishLimits x = new WishLimits();
        for (int wrong : new int[] {-1, 5, LEAST, MOST}) {
            due("with(" + wrong + ", 5, 0)", x.with(wrong, 5, 0), BAD);
            due("with(0, 5, " + wrong + ")", x.with(0, 5, wrong), BAD);
            due("with(" + wrong + ", 5, " + wrong + ")", x.with(wrong, 5, wrong), BAD);
        }
        for (int wrong : new int[] {-1, 100001, LEAST, MOST}) {
            due("with(0, " + wrong + ", 0)", x.with(0, wrong, 0), BAD);
            due("with(0, " + wrong + ", 1)", x.with(0, wrong, 1), BAD);
        }
    }

    private static void withNotPossible() {
        checks.sentence("Promise 15: NOT_POSSIBLE if all sentences cannot be together with it");
        WishLimits x = of("a from 5 mm to 9 mm", "b below c", "d is 0 mm");
        due("below the least", x.with(0, 4, 1), CANNOT);
        due("the least", x.with(0, 5, 1), 0);
        due("the greatest", x.with(0, 9, 1), 0);
        due("above the greatest", x.with(0, 10, 1), CANNOT);
        due("nothing above", x.with(1, 100000, 0), CANNOT);
        due("just one above", x.with(1, 99999, 2), 100000);
        due("nothing below", x.with(2, 0, 0), CANNOT);
        due("just one below", x.with(2, 1, 1), 0);
        due("a clash", said(x, "d is 1 mm"), 3);
        due("a clash without it", x.with(4, 5, 4), CANNOT);
    }

    private static void counts() {
        checks.sentence("Promise 16: 0: sentences; 1: doubtful ones; 2: 1 if all can be together,"
                + " otherwise 0; 4: states in the history; 5: the length of the text; 20 to 22: the"
                + " settings 0 to 2");
        WishLimits x = new WishLimits();
        int[] doubtful = {0, 0, 0, 0, 1, 1, 1, 2, 3};
        int[] together = {1, 1, 1, 1, 1, 1, 1, 0, 0};
        for (int k = 0; k < 9; k++) {
            due(KINDS[k], said(x, KINDS[k]), k);
            due("sentences", x.count(0), k + 1);
            due("doubtful ones", x.count(1), doubtful[k]);
            due("together", x.count(2), together[k]);
            due("states", x.count(4), Math.min(k + 1, 4));
            due("the text", x.count(5), KINDS[k].length());
        }
        x.set(0, 1);
        x.set(1, 2);
        x.set(2, 3);
        due("setting 0", x.count(20), 1);
        due("setting 1", x.count(21), 2);
        due("setting 2", x.count(22), 3);
    }

    private static void countWhat() {
        checks.sentence("Promise 16: INVALID_ARGUMENT if what is out of range");
        WishLimits x = of("a small");
        for (int what = -3; what <= 60; what++) {
            boolean isThere = what >= 0 && what <= 5 || what >= 20 && what <= 22;
            if (!isThere) {
                due("count(" + what + ")", x.count(what), BAD);
            }
        }
        due("the least", x.count(LEAST), BAD);
        due("the greatest", x.count(MOST), BAD);
        due("count(256)", x.count(256), BAD);
        due("count(65536)", x.count(65536), BAD);
    }

    private static void countOfOneValue() {
        checks.sentence("Promise 16: 3: lengths whose range is just one value (NOT_POSSIBLE if all"
                + " cannot be together)");
        WishLimits x = new WishLimits();
        due("none", x.count(3), 0);
        String[] texts = {"a is 5 mm", "b from 5 mm to 6 mm", "b above a", "c below d", "d is 1 mm",
            "e at least 100 m"};
        int[] due = {1, 1, 2, 2, 4, 5};
        for (int k = 0; k < texts.length; k++) {
            due(texts[k], said(x, texts[k]), k);
            due("just one value", x.count(3), due[k]);
        }
        due("a clash", said(x, "a is 6 mm"), 6);
        due("of a clash", x.count(3), CANNOT);
        due("a circle", of("a below b", "a above b").count(3), CANNOT);
    }

    private static void statesLeft() {
        checks.sentence("Promise 17: Restores the latest state of the history, which is removed from"
                + " it. Returns the number of states that are left in the history");
        WishLimits x = of("a is 1 mm", "b is 2 mm", "c is 3 mm");
        for (int left = 2; left >= 0; left--) {
            due("undo()", x.undo(), left);
            due("states", x.count(4), left);
            due("sentences", x.count(0), left);
            due("the one taken", x.range(left, 1), 100000);
        }
        due("say()", x.say(), 0);
        due("undo()", x.undo(), 0);
        due("none", x.count(0), 0);
    }

    private static void nothingToUndo() {
        checks.sentence("Promise 17: NOT_POSSIBLE if it is empty");
        WishLimits x = new WishLimits();
        due("a new one", x.undo(), CANNOT);
        due("typed", x.type('a'), 1);
        due("a text is no change", x.undo(), CANNOT);
        due("a refused change", x.set(0, 51), BAD);
        due("is none", x.undo(), CANNOT);
        due("a change", x.set(0, 50), 10);
        due("is undone", x.undo(), 0);
        due("once", x.undo(), CANNOT);
        due("the setting", x.count(20), 10);
    }

    // ---- texts

    private static void characters() {
        checks.sentence("Promise 18: character: 32 to 126; INVALID_ARGUMENT if character is out of"
                + " range");
        WishLimits x = new WishLimits();
        for (int character = 32; character <= 126; character++) {
            due("type(" + character + ")", x.type(character), (character - 32) % 40 + 1);
            if (x.count(5) == 40) {
                due("clearText()", x.clearText(), 40);
            }
        }
        due("15 are left", x.count(5), 15);
        for (int wrong : new int[] {31, 127, 0, 9, 10, 13, -1, 128, 160, 255, 256 + 'a', 65536 + 'a',
            LEAST, LEAST + 'a', MOST}) {
            due("type(" + wrong + ")", x.type(wrong), BAD);
        }
        due("15 are left", x.count(5), 15);
    }

    private static void fortyCharacters() {
        checks.sentence("Promise 18: Returns the length of the text; LIMIT_REACHED if it has 40"
                + " characters");
        WishLimits x = new WishLimits();
        for (int length = 1; length <= 40; length++) {
            due("type('a')", x.type('a'), length);
        }
        due("a 41st", x.type('a'), FULL);
        due("a 41st", x.type(' '), FULL);
        due("40", x.count(5), 40);
        due("clearText()", x.clearText(), 40);
        due("a first", x.type('a'), 1);
    }

    private static void lengthBefore() {
        checks.sentence("Promise 19: Empties the text. Returns the length it had.");
        WishLimits x = new WishLimits();
        due("none", x.clearText(), 0);
        for (int length = 1; length <= 15; length++) {
            for (int k = 0; k < length; k++) {
                x.type("a at least 5 mm".charAt(k));
            }
            due("clearText()", x.clearText(), length);
            due("count(5)", x.count(5), 0);
            due("fault(0)", x.fault(0), 0);
            due("fault(1)", x.fault(1), 1);
        }
        due("say()", x.say(), CANNOT);
        due("the text is not what it was", said(x, "a at"), CANNOT);
        due("its fault is at its end", x.fault(0), 4);
    }

    private static void faultWhat() {
        checks.sentence("Promise 20: what: 0: its place; 1: its reason; INVALID_ARGUMENT if what is"
                + " out of range; NOT_FOUND if the text has no fault");
        WishLimits x = new WishLimits();
        String[] texts = {"", "a is", "a is 0.5 mm", "a from 2 mm to 1 mm", "a below a", "a small"};
        int[] places = {0, 4, 5, 15, 8, NONE};
        int[] reasons = {1, 1, 2, 3, 4, NONE};
        for (int k = 0; k < texts.length; k++) {
            Checks.write(x, texts[k]);
            due("\"" + texts[k] + "\": place", x.fault(0), places[k]);
            due("\"" + texts[k] + "\": reason", x.fault(1), reasons[k]);
            for (int wrong : new int[] {-1, 2, 3, 4, LEAST, MOST}) {
                due("fault(" + wrong + ")", x.fault(wrong), BAD);
            }
        }
    }
}

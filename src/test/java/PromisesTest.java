/** For each promise of the document: ordinary inputs, the edges that it names, and wrong inputs. */
public final class PromisesTest {
    private static final int BAD = WishLimits.INVALID_ARGUMENT;
    private static final int CANNOT = WishLimits.NOT_POSSIBLE;
    private static final int FULL = WishLimits.LIMIT_REACHED;
    private static final int NONE = WishLimits.NOT_FOUND;
    private static final int[] FAR = {Integer.MIN_VALUE, -1000, -1, 1000000, Integer.MAX_VALUE};

    private static final Checks checks = new Checks();

    public static void main(String[] args) {
        newObject();
        say();
        takeBack();
        weigh();
        set();
        sentenceOf();
        sentenceOfAlone();
        range();
        rangeOfOrders();
        middle();
        reason();
        clash();
        clashes();
        keep();
        could();
        broken();
        with();
        count();
        undo();
        undoRestoresAll();
        type();
        clearText();
        faultOfSigns();
        faultOfValues();
        checks.end();
    }

    private static void due(String call, long got, long want) {
        checks.due(call, got, want);
    }

    private static WishLimits of(String... sentences) {
        return Checks.of(sentences);
    }

    private static int said(WishLimits x, String text) {
        return Checks.said(x, text);
    }

    private static WishLimits tenOf(String sentence) {
        return Checks.tenOf(sentence);
    }

    private static void newObject() {
        checks.sentence("Promise 1: Creates lengths without wishes.");
        due("INVALID_ARGUMENT", BAD, -1000001);
        due("NOT_POSSIBLE", CANNOT, -1000002);
        due("LIMIT_REACHED", FULL, -1000003);
        due("NOT_FOUND", NONE, -1000004);
        WishLimits x = new WishLimits();
        int[] what = {0, 1, 2, 3, 4, 5, 20, 21, 22};
        int[] want = {0, 0, 1, 0, 0, 0, 10, 100, 1000};
        for (int k = 0; k < what.length; k++) {
            due("new: count(" + what[k] + ")", x.count(what[k]), want[k]);
        }
        for (int length = 0; length < 5; length++) {
            due("new: range(" + length + ", 0)", x.range(length, 0), 0);
            due("new: range(" + length + ", 1)", x.range(length, 1), 100000);
        }
        due("new: clash()", x.clash(), NONE);
        due("new: clashes()", x.clashes(), 0);
        due("new: keep(0)", x.keep(0), 0);
        due("new: keep(1)", x.keep(1), 0);
        due("new: reason(4, 1)", x.reason(4, 1), 0);
        due("new: broken", x.broken(0, 1, 2, 3, 100000), 0);
        due("new: undo()", x.undo(), CANNOT);
        due("new: say()", x.say(), CANNOT);
        due("new: could()", x.could(), CANNOT);
        due("new: fault(0)", x.fault(0), 0);
        due("new: fault(1)", x.fault(1), 1);
        WishLimits other = of("a is 5 mm");
        due("objects are apart", new WishLimits().count(0), 0);
        due("objects are apart", other.count(0), 1);
    }

    private static void say() {
        checks.sentence("Promise 2: Says the sentence of the text, which stays. Returns its "
                + "number; NOT_POSSIBLE if the text has a fault; LIMIT_REACHED if there are 10.");
        WishLimits x = new WishLimits();
        due("say()", said(x, "a is 5 mm"), 0);
        due("the text stays", x.count(5), 9);
        due("the same again", x.say(), 1);
        due("a fault", said(x, "a is 5"), CANNOT);
        due("a fault of a value", said(x, "a is 0.5 mm"), CANNOT);
        due("a fault of a range", said(x, "a from 2 m to 1 m"), CANNOT);
        due("a fault of lengths", said(x, "a above a"), CANNOT);
        due("none is said", x.count(0), 2);
        WishLimits full = tenOf("b small");
        due("an eleventh", full.say(), FULL);
        due("a fault and full", said(full, "b smal"), CANNOT);
        due("ten", full.count(0), 10);
        due("take one back", full.takeBack(3), 9);
        due("then there is room", said(full, "c large"), 9);
        due("the new one is the last", full.sentenceOf(9, 0), 8);
        due("and no further", full.say(), FULL);
    }

    private static void takeBack() {
        checks.sentence("Promise 3: Takes a sentence back. Returns how many there are then; "
                + "INVALID_ARGUMENT.");
        WishLimits x = of("a is 1 mm", "b is 2 mm", "c is 3 mm", "d is 4 mm");
        due("weigh(2, 7)", x.weigh(2, 7), 1);
        due("takeBack(4)", x.takeBack(4), BAD);
        due("takeBack(-1)", x.takeBack(-1), BAD);
        due("takeBack(1)", x.takeBack(1), 3);
        due("those ahead stay", x.sentenceOf(0, 2), 1);
        due("those behind move", x.sentenceOf(1, 2), 3);
        due("with their weights", x.sentenceOf(1, 5), 7);
        due("those behind move", x.sentenceOf(2, 1), 3);
        due("none is left there", x.sentenceOf(3, 1), BAD);
        due("its wish is gone", x.range(1, 1), 100000);
        due("the last one", x.takeBack(2), 2);
        due("the first one", x.takeBack(0), 1);
        due("the only one", x.takeBack(0), 0);
        due("none", x.takeBack(0), BAD);
        for (int far : FAR) {
            due("takeBack(" + far + ")", x.takeBack(far), BAD);
        }
    }

    private static void weigh() {
        checks.sentence("Promise 4: Sets the weight of a sentence. weight: 1 to 9. Returns what "
                + "it was; INVALID_ARGUMENT if an argument is out of range.");
        WishLimits x = of("a is 1 mm", "b is 2 mm");
        due("1 at first", x.weigh(1, 9), 1);
        due("what it was", x.weigh(1, 1), 9);
        due("the same weight", x.weigh(1, 1), 1);
        due("the same weight is a change", x.count(4), 4);
        due("the other one", x.sentenceOf(0, 5), 1);
        due("weigh(0, 0)", x.weigh(0, 0), BAD);
        due("weigh(0, 10)", x.weigh(0, 10), BAD);
        due("weigh(2, 5)", x.weigh(2, 5), BAD);
        due("weigh(-1, 5)", x.weigh(-1, 5), BAD);
        for (int far : FAR) {
            due("weigh(0, " + far + ")", x.weigh(0, far), BAD);
            due("weigh(" + far + ", 1)", x.weigh(far, 1), BAD);
        }
        due("a sentence said anew", said(x, "c small"), 2);
        due("weighs 1", x.sentenceOf(2, 5), 1);
    }

    private static void set() {
        checks.sentence("Promise 5: Sets a setting. what: 0 to 2; value: a value in its range. "
                + "Returns what it was; INVALID_ARGUMENT if an argument is out of range.");
        WishLimits x = new WishLimits();
        due("set(0, 0)", x.set(0, 0), 10);
        due("set(0, 50)", x.set(0, 50), 0);
        due("set(0, 51)", x.set(0, 51), BAD);
        due("set(0, -1)", x.set(0, -1), BAD);
        due("set(1, 100000)", x.set(1, 100000), 100);
        due("set(1, 0)", x.set(1, 0), 100000);
        due("set(1, 100001)", x.set(1, 100001), BAD);
        due("set(2, 100000)", x.set(2, 100000), 1000);
        due("set(2, 0)", x.set(2, 0), 100000);
        due("set(2, -1)", x.set(2, -1), BAD);
        due("set(3, 1)", x.set(3, 1), BAD);
        due("set(-1, 1)", x.set(-1, 1), BAD);
        for (int far : FAR) {
            due("set(" + far + ", 1)", x.set(far, 1), BAD);
            due("set(1, " + far + ")", x.set(1, far), BAD);
        }
        due("count(20)", x.count(20), 50);
        due("count(21)", x.count(21), 0);
        due("count(22)", x.count(22), 0);
    }

    private static void sentenceOf() {
        checks.sentence("Promise 6: Returns something of a sentence; INVALID_ARGUMENT if an "
                + "argument is out of range; NOT_FOUND for 2, 3, 4 and 8 if it has no such "
                + "thing.");
        WishLimits x = of("a at least 3 cm", "b at most 2 m", "c is 7 mm", "d from 5 cm to 1 m",
                "e about 20 mm", "a below b", "b above e", "c small", "d large");
        int[][] want = {
            {0, 0, 30, NONE, NONE, 1, 30, 100000, 1},
            {1, 1, 2000, NONE, NONE, 1, 0, 2000, 2},
            {2, 2, 7, NONE, NONE, 1, 7, 7, 0},
            {3, 3, 50, 1000, NONE, 1, 50, 1000, 1},
            {4, 4, 20, NONE, NONE, 1, 18, 22, 0},
            {5, 0, NONE, NONE, 1, 1, 0, 99999, NONE},
            {6, 1, NONE, NONE, 4, 1, 1, 100000, NONE},
            {7, 2, NONE, NONE, NONE, 1, 0, 100, NONE},
            {8, 3, NONE, NONE, NONE, 1, 1000, 100000, NONE}};
        for (int k = 0; k < want.length; k++) {
            for (int what = 0; what <= 8; what++) {
                due("sentenceOf(" + k + ", " + what + ")", x.sentenceOf(k, what), want[k][what]);
            }
            due("what is -1", x.sentenceOf(k, -1), BAD);
            due("what is 9", x.sentenceOf(k, 9), BAD);
        }
        due("no such sentence", x.sentenceOf(9, 0), BAD);
        due("no such sentence", x.sentenceOf(-1, 0), BAD);
        for (int far : FAR) {
            due("sentenceOf(" + far + ", 0)", x.sentenceOf(far, 0), BAD);
            due("sentenceOf(0, " + far + ")", x.sentenceOf(0, far), BAD);
        }
    }

    private static void sentenceOfAlone() {
        checks.sentence("Promise 6: 6: the least that x is by it alone; 7: the greatest that x "
                + "is by it alone (with kinds 5 and 6: y being any length)");
        WishLimits x = of("a about 99 m", "b about 9 mm", "c about 0 mm", "d small", "e large");
        due("the greatest length at most", x.sentenceOf(0, 7), 100000);
        due("its least", x.sentenceOf(0, 6), 89100);
        due("rounded down", x.sentenceOf(1, 6), 9);
        due("rounded down", x.sentenceOf(1, 7), 9);
        due("set(0, 50)", x.set(0, 50), 10);
        due("as the setting is now", x.sentenceOf(0, 6), 49500);
        due("as the setting is now", x.sentenceOf(1, 6), 5);
        due("as the setting is now", x.sentenceOf(1, 7), 13);
        due("nothing", x.sentenceOf(2, 7), 0);
        due("set(1, 0)", x.set(1, 0), 100);
        due("as the setting is now", x.sentenceOf(3, 7), 0);
        due("set(2, 100000)", x.set(2, 100000), 1000);
        due("as the setting is now", x.sentenceOf(4, 6), 100000);
    }

    private static void range() {
        checks.sentence("Promise 7: Tells the range of a length: which values it can have, if "
                + "all sentences hold. INVALID_ARGUMENT if an argument is out of range; "
                + "NOT_POSSIBLE if all sentences cannot be together.");
        WishLimits x = of("a at least 3 cm", "a at most 2 m", "b from 1 cm to 2 cm", "c about 1 m");
        due("range(0, 0)", x.range(0, 0), 30);
        due("range(0, 1)", x.range(0, 1), 2000);
        due("range(1, 0)", x.range(1, 0), 10);
        due("range(1, 1)", x.range(1, 1), 20);
        due("range(2, 0)", x.range(2, 0), 900);
        due("range(2, 1)", x.range(2, 1), 1100);
        due("set(0, 1)", x.set(0, 1), 10);
        due("range(2, 1)", x.range(2, 1), 1010);
        due("range(5, 0)", x.range(5, 0), BAD);
        due("range(-1, 0)", x.range(-1, 0), BAD);
        due("range(0, 2)", x.range(0, 2), BAD);
        due("range(0, -1)", x.range(0, -1), BAD);
        for (int far : FAR) {
            due("range(" + far + ", 0)", x.range(far, 0), BAD);
            due("range(0, " + far + ")", x.range(0, far), BAD);
        }
        due("a clash", said(x, "a is 29 mm"), 4);
        due("range of a clash", x.range(3, 0), CANNOT);
        due("a wrong length first", x.range(5, 0), BAD);
        due("a wrong what first", x.range(0, 2), BAD);
    }

    private static void rangeOfOrders() {
        // Said from the far end on, so that each round of the orders brings one step alone.
        WishLimits x = of("d below e", "c below d", "b below c", "a below b");
        for (int length = 0; length < 5; length++) {
            due("a chain's least", x.range(length, 0), length);
            due("a chain's greatest", x.range(length, 1), 99996 + length);
        }
        due("its other end", said(x, "e is 4 mm"), 4);
        due("all are just one", x.count(3), 5);
        due("a circle", said(x, "a above e"), 5);
        due("is not possible", x.range(0, 0), CANNOT);
        WishLimits y = of("e above d", "d above c", "c above b", "b above a", "a at least 99.9 m");
        due("no room above", y.count(2), 1);
        due("one more", said(y, "a at least 99997 mm"), 5);
        due("is too much", y.range(1, 1), CANNOT);
        WishLimits z = of("a below b", "b below a");
        due("two lengths in a circle", z.range(4, 1), CANNOT);
        WishLimits same = of("a above b", "a at most 5 mm", "b at least 5 mm");
        due("below is not the same", same.range(0, 0), CANNOT);
    }

    private static void middle() {
        checks.sentence("Promise 8: the least and the greatest value, as floats in mm, added, "
                + "divided by 2 times the millimeters of the unit. INVALID_ARGUMENT if an "
                + "argument is out of range; NOT_POSSIBLE if all sentences cannot be together.");
        WishLimits x = of("a from 0 mm to 1 mm", "b is 0 mm", "c from 3 mm to 99999 mm",
                "d is 7 mm");
        int[] units = {1, 10, 1000};
        for (int length = 0; length < 5; length++) {
            for (int unit = 0; unit < 3; unit++) {
                float sum = (float) x.range(length, 0) + (float) x.range(length, 1);
                int want = Float.floatToIntBits(sum / (2f * units[unit]));
                due("middle(" + length + ", " + unit + ")", x.middle(length, unit), want);
            }
        }
        due("half a millimeter", x.middle(0, 0), Float.floatToIntBits(0.5f));
        due("half a millimeter in m", x.middle(0, 2), Float.floatToIntBits(0.0005f));
        due("nothing", x.middle(1, 1), 0);
        due("7 mm in cm", x.middle(3, 1), Float.floatToIntBits(0.7f));
        due("the middle of all", x.middle(4, 0), Float.floatToIntBits(50000f));
        due("middle(5, 0)", x.middle(5, 0), BAD);
        due("middle(-1, 0)", x.middle(-1, 0), BAD);
        due("middle(0, 3)", x.middle(0, 3), BAD);
        due("middle(0, -1)", x.middle(0, -1), BAD);
        for (int far : FAR) {
            due("middle(" + far + ", 0)", x.middle(far, 0), BAD);
            due("middle(0, " + far + ")", x.middle(0, far), BAD);
        }
        due("a clash", said(x, "d is 8 mm"), 4);
        due("middle of a clash", x.middle(0, 0), CANNOT);
        due("a wrong unit first", x.middle(0, 3), BAD);
    }

    private static void reason() {
        checks.sentence("Promise 9: the fewest sentences by which, were they the only ones, this "
                + "end would be the same, of several such sets the lowest. Returns the set (0 if "
                + "it is 0, or 100000, without any); INVALID_ARGUMENT if an argument is out of "
                + "range; NOT_POSSIBLE if all sentences cannot be together.");
        WishLimits x = of("a at least 3 cm", "a at least 5 cm", "a from 5 cm to 1 m", "b above a",
                "b at least 51 mm", "c small");
        due("one of two alike: the lowest", x.reason(0, 0), 2);
        due("the greatest", x.reason(0, 1), 4);
        due("fewer rather than lower", x.reason(1, 0), 16);
        due("none is needed", x.reason(1, 1), 0);
        due("none is needed", x.reason(2, 0), 0);
        due("a doubtful one", x.reason(2, 1), 32);
        due("no wish", x.reason(4, 0), 0);
        due("a chain", said(x, "c above b"), 6);
        due("takes all of it", x.reason(2, 0), 80);
        due("a greatest by a chain", x.reason(1, 1), 96);
        due("reason(5, 0)", x.reason(5, 0), BAD);
        due("reason(-1, 0)", x.reason(-1, 0), BAD);
        due("reason(0, 2)", x.reason(0, 2), BAD);
        due("reason(0, -1)", x.reason(0, -1), BAD);
        for (int far : FAR) {
            due("reason(" + far + ", 0)", x.reason(far, 0), BAD);
            due("reason(0, " + far + ")", x.reason(0, far), BAD);
        }
        WishLimits lower = of("a is 5 mm", "a at least 5 mm", "a at most 5 mm", "b below a");
        due("the lowest of two of one", lower.reason(0, 1), 1);
        due("two", lower.reason(1, 1), 9);
        due("a clash", said(lower, "a above b"), 4);
        due("none yet", lower.reason(0, 0), 1);
        due("a clash", said(lower, "b is 5 mm"), 5);
        due("reason of a clash", lower.reason(0, 0), CANNOT);
        due("a wrong what first", lower.reason(0, 2), BAD);
    }

    private static void clash() {
        checks.sentence("Promise 10: Finds the fewest sentences that cannot be together, of "
                + "several such sets the lowest. NOT_FOUND if all sentences can be together.");
        WishLimits x = of("a at least 3 cm", "b below a", "c below b", "a at most 31 mm",
                "c at least 3 cm");
        due("four with an order", x.clash(), 30);
        due("two of one length", said(x, "a is 29 mm"), 5);
        due("fewest and lowest", x.clash(), 33);
        due("without the one", x.takeBack(0), 5);
        due("the lowest of two of four", x.clash(), 15);
        WishLimits all = of("a small", "b large");
        due("no clash", all.clash(), NONE);
        WishLimits alone = of("a below b", "b is 0 mm");
        due("an order and an end", alone.clash(), 3);
        WishLimits two = of("a is 1 mm", "b is 1 mm", "b is 2 mm", "a is 2 mm");
        due("the lowest of two", two.clash(), 6);
    }

    private static void clashes() {
        checks.sentence("Promise 11: Counts the sets of sentences that cannot be together, but "
                + "can if any one of them is left out.");
        WishLimits x = of("a is 1 mm", "b is 1 mm", "b is 2 mm", "a is 2 mm", "a below b");
        due("clashes()", x.clashes(), 5);
        due("no clash", of("a is 1 mm", "b is 1 mm").clashes(), 0);
        WishLimits many = new WishLimits();
        for (int k = 0; k < 10; k++) {
            said(many, "a is " + k + " mm");
        }
        due("each two of ten", many.clashes(), 45);
        WishLimits circle = of("a below b", "b below c", "c below d", "d below e", "e below a");
        due("a circle of five", circle.clashes(), 1);
        due("a circle of five", circle.clash(), 31);
        due("a shorter way", said(circle, "c below a"), 5);
        due("two circles", circle.clashes(), 2);
        due("the shorter one", circle.clash(), 35);
    }

    private static void keep() {
        checks.sentence("Promise 12: Finds the sentences that can be together whose weights "
                + "together are greatest, of several such sets the lowest. INVALID_ARGUMENT if "
                + "what is out of range.");
        WishLimits x = of("a is 1 mm", "a is 2 mm", "a is 1 mm", "b small");
        due("the heaviest", x.keep(0), 13);
        due("its weight", x.keep(1), 3);
        due("as heavy", x.weigh(1, 2), 1);
        due("the lowest of two", x.keep(0), 10);
        due("its weight", x.keep(1), 3);
        due("heavier", x.weigh(1, 9), 2);
        due("the heaviest", x.keep(0), 10);
        due("its weight", x.keep(1), 10);
        due("keep(2)", x.keep(2), BAD);
        due("keep(-1)", x.keep(-1), BAD);
        for (int far : FAR) {
            due("keep(" + far + ")", x.keep(far), BAD);
        }
        due("all", of("a small", "b large").keep(0), 3);
        WishLimits ten = tenOf("a small");
        due("all ten", ten.keep(0), 1023);
        for (int k = 0; k < 10; k++) {
            due("weigh(" + k + ", 9)", ten.weigh(k, 9), 1);
        }
        due("the greatest weight", ten.keep(1), 90);
    }

    private static void could() {
        checks.sentence("Promise 13: Returns 1 if it can, otherwise 0; NOT_POSSIBLE if the text "
                + "has a fault, or all sentences cannot be together without it.");
        WishLimits x = of("a at least 5 cm");
        due("the same", x.could(), 1);
        Checks.write(x, "a at most 49 mm");
        due("a clash", x.could(), 0);
        Checks.write(x, "a at most 50 mm");
        due("just so", x.could(), 1);
        Checks.write(x, "a small");
        due("a doubtful one", x.could(), 1);
        due("set(1, 49)", x.set(1, 49), 100);
        due("as the setting is now", x.could(), 0);
        due("nothing is said", x.count(0), 1);
        Checks.write(x, "b below a");
        due("an order", x.could(), 1);
        Checks.write(x, "b below b");
        due("a fault", x.could(), CANNOT);
        due("a clash", said(x, "a is 1 mm"), 1);
        Checks.write(x, "c small");
        due("a clash without it", x.could(), CANNOT);
        WishLimits full = tenOf("a below b");
        due("an eleventh", full.could(), 1);
        Checks.write(full, "b below a");
        due("an eleventh with a clash", full.could(), 0);
    }

    private static void broken() {
        checks.sentence("Promise 14: Returns the set of sentences that do not hold; "
                + "INVALID_ARGUMENT if an argument is out of range.");
        WishLimits x = of("a at least 3 cm", "b at most 2 m", "c is 7 mm", "d from 5 cm to 1 m",
                "e about 20 mm", "a below b", "b above e", "c small", "d large");
        due("none", x.broken(30, 2000, 7, 1000, 22), 0);
        due("each end", x.broken(29, 2001, 8, 999, 23), 1 + 2 + 4 + 16 + 256);
        due("from to", x.broken(30, 2000, 7, 49, 22), 8 + 256);
        due("from to", x.broken(30, 2000, 7, 1001, 22), 8);
        due("the same is not below", x.broken(30, 30, 7, 1000, 18), 32);
        due("the same is not above", x.broken(30, 22, 7, 1000, 22), 32 + 64);
        due("small", x.broken(30, 2000, 101, 1000, 17), 4 + 16 + 128);
        due("set(0, 0)", x.set(0, 0), 10);
        due("as the setting is now", x.broken(30, 2000, 7, 1000, 22), 16);
        for (int wrong : new int[] {Integer.MIN_VALUE, -1, 100001, Integer.MAX_VALUE}) {
            due("broken a", x.broken(wrong, 0, 0, 0, 0), BAD);
            due("broken b", x.broken(0, wrong, 0, 0, 0), BAD);
            due("broken c", x.broken(0, 0, wrong, 0, 0), BAD);
            due("broken d", x.broken(0, 0, 0, wrong, 0), BAD);
            due("broken e", x.broken(0, 0, 0, 0, wrong), BAD);
        }
        due("all ten", tenOf("e large").broken(0, 0, 0, 0, 999), 1023);
        WishLimits clash = of("a is 1 mm", "a is 2 mm");
        due("told of a clash too", clash.broken(1, 100000, 100000, 0, 0), 2);
    }

    private static void with() {
        checks.sentence("Promise 15: Returns the least value of the other length, if the first "
                + "one has this value (the value itself, if both are the same); INVALID_ARGUMENT "
                + "if an argument is out of range; NOT_POSSIBLE if all sentences cannot be "
                + "together with it.");
        WishLimits x = of("a below b", "b below c", "a at least 5 mm");
        due("with(0, 5, 2)", x.with(0, 5, 2), 7);
        due("with(0, 90, 2)", x.with(0, 90, 2), 92);
        due("with(2, 90, 0)", x.with(2, 90, 0), 5);
        due("with(2, 7, 1)", x.with(2, 7, 1), 6);
        due("with(2, 6, 1)", x.with(2, 6, 1), CANNOT);
        due("with(0, 99998, 2)", x.with(0, 99998, 2), 100000);
        due("with(0, 99999, 2)", x.with(0, 99999, 2), CANNOT);
        due("the length itself", x.with(1, 77, 1), 77);
        due("the length itself", x.with(1, 5, 1), CANNOT);
        due("another length", x.with(3, 77, 4), 0);
        due("the least value", x.with(3, 0, 3), 0);
        due("the greatest value", x.with(3, 100000, 3), 100000);
        due("the range stays", x.range(0, 1), 99998);
        due("with(5, 0, 0)", x.with(5, 0, 0), BAD);
        due("with(-1, 0, 0)", x.with(-1, 0, 0), BAD);
        due("with(0, 100001, 0)", x.with(0, 100001, 0), BAD);
        due("with(0, -1, 0)", x.with(0, -1, 0), BAD);
        due("with(0, 0, 5)", x.with(0, 0, 5), BAD);
        due("with(0, 0, -1)", x.with(0, 0, -1), BAD);
        for (int far : FAR) {
            due("with(" + far + ", 5, 0)", x.with(far, 5, 0), BAD);
            due("with(0, " + far + ", 0)", x.with(0, far, 0), BAD);
            due("with(0, 5, " + far + ")", x.with(0, 5, far), BAD);
        }
        WishLimits clash = of("a is 1 mm", "a is 2 mm");
        due("with of a clash", clash.with(3, 1, 3), CANNOT);
    }

    private static void count() {
        checks.sentence("Promise 16: Returns the number; INVALID_ARGUMENT if what is out of "
                + "range. 3: NOT_POSSIBLE if all cannot be together.");
        WishLimits x = of("a about 5 cm", "b small", "c large", "d is 5 mm", "e below c");
        due("count(0)", x.count(0), 5);
        due("count(1)", x.count(1), 3);
        due("count(2)", x.count(2), 1);
        due("count(3)", x.count(3), 1);
        due("count(4)", x.count(4), 4);
        due("count(5)", x.count(5), 9);
        due("set(1, 0)", x.set(1, 0), 100);
        due("as the setting is now", x.count(3), 2);
        due("count(21)", x.count(21), 0);
        due("a clash", said(x, "d is 6 mm"), 5);
        due("count(2)", x.count(2), 0);
        due("count(3)", x.count(3), CANNOT);
        for (int wrong : new int[] {-1, 6, 19, 23}) {
            due("count(" + wrong + ")", x.count(wrong), BAD);
        }
        for (int far : FAR) {
            due("count(" + far + ")", x.count(far), BAD);
        }
    }

    private static void undo() {
        checks.sentence("Promise 17: Restores the latest state of the history, which is removed "
                + "from it. Returns the number of states that are left in the history; "
                + "NOT_POSSIBLE if it is empty.");
        WishLimits x = new WishLimits();
        due("nothing to undo", x.undo(), CANNOT);
        due("typed", x.type('a'), 1);
        due("a text is no change", x.undo(), CANNOT);
        said(x, "a is 1 mm");
        due("count(4)", x.count(4), 1);
        x.say();
        x.say();
        x.say();
        due("four", x.count(4), 4);
        x.say();
        due("at most four", x.count(4), 4);
        due("undo()", x.undo(), 3);
        due("the text stays", x.count(5), 9);
        due("one is gone", x.count(0), 4);
        due("undo()", x.undo(), 2);
        due("undo()", x.undo(), 1);
        due("undo()", x.undo(), 0);
        due("the oldest is dropped", x.count(0), 1);
        due("undo()", x.undo(), CANNOT);
        due("one is left", x.count(0), 1);
    }

    private static void undoRestoresAll() {
        WishLimits x = of("a is 1 mm", "b is 2 cm", "c is 3 m");
        x.weigh(1, 5);
        x.set(0, 20);
        x.takeBack(0);
        x.weigh(0, 8);
        due("the settings stay", x.count(20), 20);
        due("undo of a weight", x.undo(), 3);
        due("it is back", x.sentenceOf(0, 5), 5);
        due("undo of a takeBack", x.undo(), 2);
        due("it is back", x.sentenceOf(0, 2), 1);
        due("those behind too", x.sentenceOf(2, 2), 3000);
        due("with their units", x.sentenceOf(1, 8), 1);
        due("undo of a setting", x.undo(), 1);
        due("it is back", x.count(20), 10);
        due("undo of a weight", x.undo(), 0);
        due("it is back", x.sentenceOf(1, 5), 1);
        due("three", x.count(0), 3);
        x.weigh(2, 9);
        due("a change after an undo", x.count(4), 1);
        due("is undone", x.undo(), 0);
        due("too", x.sentenceOf(2, 5), 1);
    }

    private static void type() {
        checks.sentence("Promise 18: Appends a character to the text. character: 32 to 126. "
                + "Returns the length of the text; INVALID_ARGUMENT if character is out of "
                + "range; LIMIT_REACHED if it has 40 characters.");
        WishLimits x = new WishLimits();
        due("type(31)", x.type(31), BAD);
        due("type(127)", x.type(127), BAD);
        due("type(32)", x.type(32), 1);
        due("type(126)", x.type(126), 2);
        for (int k = 3; k <= 40; k++) {
            due("type(65)", x.type(65), k);
        }
        due("a 41st", x.type(65), FULL);
        due("a wrong one first", x.type(31), BAD);
        due("40", x.count(5), 40);
        for (int far : FAR) {
            due("type(" + far + ")", x.type(far), BAD);
        }
        due("type(65632): 'a' as a char", x.type(65536 + 'a'), BAD);
    }

    private static void clearText() {
        checks.sentence("Promise 19: Empties the text. Returns the length it had.");
        WishLimits x = new WishLimits();
        due("clearText()", x.clearText(), 0);
        Checks.write(x, "a small");
        due("clearText()", x.clearText(), 7);
        due("clearText()", x.clearText(), 0);
        due("count(5)", x.count(5), 0);
        due("fault(0)", x.fault(0), 0);
        due("no change", x.count(4), 0);
        Checks.write(x, "b is 1 m");
        due("a new text", x.say(), 0);
        due("without the old one", x.sentenceOf(0, 1), 1);
    }

    private static void dueFault(String text, int place, int reason) {
        WishLimits x = new WishLimits();
        Checks.write(x, text);
        due("\"" + text + "\": fault(0)", x.fault(0), place);
        due("\"" + text + "\": fault(1)", x.fault(1), reason);
        due("\"" + text + "\": say()", x.say(), reason == NONE ? 0 : CANNOT);
    }

    private static void faultOfSigns() {
        checks.sentence("Promise 20: Tells about the fault of the text. INVALID_ARGUMENT if what "
                + "is out of range; NOT_FOUND if the text has no fault.");
        String[] right = {"a at least 0 mm", "b at most 000001 cm", "c is 100000.0 mm", "d is 100.0 m",
            "e from 1 m to 1 m", "a from 0.1 cm to 0.1 m", "a about 5 mm", "a below e", "e above d",
            "a small", "b large"};
        for (String text : right) {
            dueFault(text, NONE, NONE);
            for (int k = 0; k < text.length(); k++) {
                boolean isWhole = text.startsWith("m", k) && text.startsWith("mm", k - 1) && k == text.length() - 1;
                if (!isWhole) {
                    dueFault(text.substring(0, k), k, 1);
                }
                dueFault(text.substring(0, k) + '~', k, 1);
            }
            dueFault(text + " ", text.length(), 1);
            dueFault(text + "x", text.length(), 1);
        }
        dueFault("a is 5 mmm", 9, 1);
        dueFault("f is 5 mm", 0, 1);
        dueFault("A is 5 mm", 0, 1);
        dueFault(" a is 5 mm", 0, 1);
        dueFault("a  is 5 mm", 2, 1);
        dueFault("a is  5 mm", 5, 1);
        dueFault("a is 5  mm", 7, 1);
        dueFault("a is 5mm", 6, 1);
        dueFault("a is 1234567 mm", 11, 1);
        dueFault("a is .5 cm", 5, 1);
        dueFault("a is 5. cm", 7, 1);
        dueFault("a is 5.55 cm", 8, 1);
        dueFault("a is 5.5.5 cm", 8, 1);
        dueFault("a is -5 cm", 5, 1);
        dueFault("a is 5 km", 7, 1);
        dueFault("a is : mm", 5, 1);
        dueFault("a is / mm", 5, 1);
        dueFault("a is 5: mm", 6, 1);
        dueFault("a is 5/ mm", 6, 1);
        dueFault("a is 5.: cm", 7, 1);
        dueFault("` is 5 mm", 0, 1);
        dueFault("a below `", 8, 1);
        dueFault("a ab", 4, 1);
        dueFault("a abx", 4, 1);
        dueFault("a aboux", 6, 1);
        dueFault("a abovx", 6, 1);
        dueFault("a at x", 5, 1);
        dueFault("a at largest", 6, 1);
        dueFault("a below f", 8, 1);
        dueFault("a below a b", 9, 1);
        dueFault("a from 5 cm t 1 m", 13, 1);
        dueFault("a is 5 cm to 1 m", 9, 1);
        dueFault("a from 0.1 mm to 5 kg", 19, 1);
        WishLimits x = new WishLimits();
        due("fault(2)", x.fault(2), BAD);
        due("fault(-1)", x.fault(-1), BAD);
        Checks.write(x, "a small");
        due("no fault, a wrong what", x.fault(2), BAD);
        for (int far : FAR) {
            due("fault(" + far + ")", x.fault(far), BAD);
        }
    }

    private static void faultOfValues() {
        dueFault("a is 0.1 mm", 5, 2);
        dueFault("a is 1.0 mm", NONE, NONE);
        dueFault("a is 100001 mm", 5, 2);
        dueFault("a is 10000.1 cm", 5, 2);
        dueFault("a is 10000 cm", NONE, NONE);
        dueFault("a is 100.1 m", 5, 2);
        dueFault("a is 999999.9 m", 5, 2);
        dueFault("a at least 429496.7 m", 11, 2);
        dueFault("a at most 101 m", 10, 2);
        dueFault("a about 0.9 mm", 8, 2);
        dueFault("a from 5 cm to 0.1 mm", 15, 2);
        dueFault("a from 0.2 mm to 0.1 mm", 7, 2);
        dueFault("a from 101 m to 1 cm", 7, 2);
        dueFault("a from 5 cm to 4.9 cm", 15, 3);
        dueFault("a from 5 cm to 5 cm", NONE, NONE);
        dueFault("a from 1 m to 999 mm", 14, 3);
        dueFault("a below a", 8, 4);
        dueFault("e above e", 8, 4);
        WishLimits x = of("a is 2.5 m", "a from 2.5 cm to 0.3 m");
        due("2.5 m", x.sentenceOf(0, 2), 2500);
        due("2.5 cm", x.sentenceOf(1, 2), 25);
        due("0.3 m", x.sentenceOf(1, 3), 300);
        due("the first one's unit", x.sentenceOf(1, 8), 1);
    }
}

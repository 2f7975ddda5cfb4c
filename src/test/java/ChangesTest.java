import java.util.LinkedHashMap;
import java.util.Map;

/**
 * The document's "Changes and errors": each sentence that names an edge has the checks that stand
 * below it. Whether a call has changed something is told by a twin that has not had this call.
 */
public final class ChangesTest {
    private static final int BAD = WishLimits.INVALID_ARGUMENT;
    private static final int CANNOT = WishLimits.NOT_POSSIBLE;
    private static final int FULL = WishLimits.LIMIT_REACHED;
    private static final int NONE = WishLimits.NOT_FOUND;
    private static final int LEAST = Integer.MIN_VALUE;
    private static final int MOST = Integer.MAX_VALUE;

    private static final Checks checks = new Checks();

    public static void main(String[] args) {
        changes();
        noChanges();
        historyOfFour();
        oldestIsDropped();
        everythingIsRecorded();
        everythingButTheText();
        oneStateEach();
        argumentsAheadOfStates();
        statesAheadOfLimits();
        argumentsAheadOfLimits();
        argumentsAheadOfNothingFound();
        errorsOfANewObject();
        errorsOfAClash();
        errorsOfTenSentences();
        errorsOfFortyCharacters();
        noSuchSentence();
        checks.end();
    }

    private static void due(String call, long got, long want) {
        checks.due(call, got, want);
    }

    private interface Call {
        int on(WishLimits x);
    }

    private interface Maker {
        WishLimits make();
    }

    // ---- what is a change

    private static void changes() {
        checks.sentence("The changes are the calls of say, takeBack, weigh and set that return no"
                + " error.");
        WishLimits x = new WishLimits();
        Checks.write(x, "a small");
        due("typed", x.count(4), 0);
        due("say()", x.say(), 0);
        due("say() is a change", x.count(4), 1);
        due("weigh(0, 5)", x.weigh(0, 5), 1);
        due("weigh is a change", x.count(4), 2);
        due("set(0, 20)", x.set(0, 20), 10);
        due("set is a change", x.count(4), 3);
        due("takeBack(0)", x.takeBack(0), 0);
        due("takeBack is a change", x.count(4), 4);
        WishLimits same = Checks.of("a small");
        due("the same weight", same.weigh(0, 1), 1);
        due("is a change", same.count(4), 2);
        due("the same setting", same.set(1, 100), 100);
        due("is a change", same.count(4), 3);
        due("the same sentence", same.say(), 1);
        due("is a change", same.count(4), 4);
        due("undo() of it", same.undo(), 3);
        due("one sentence", same.count(0), 1);
        due("undo() of the setting", same.undo(), 2);
        due("undo() of the weight", same.undo(), 1);
        due("one sentence", same.count(0), 1);
        due("undo() of the first", same.undo(), 0);
        due("no sentence", same.count(0), 0);
    }

    private static void noChanges() {
        WishLimits x = Checks.of("a small", "b above a");
        Call[] calls = {y -> y.type('c'), y -> y.clearText(), y -> y.type('c'), y -> y.say(),
            y -> y.could(), y -> y.fault(0), y -> y.takeBack(2), y -> y.weigh(0, 10),
            y -> y.weigh(2, 1), y -> y.set(0, 51), y -> y.set(3, 0), y -> y.sentenceOf(0, 0),
            y -> y.range(0, 1), y -> y.middle(0, 0), y -> y.reason(0, 1), y -> y.clash(),
            y -> y.clashes(), y -> y.keep(0), y -> y.broken(0, 0, 0, 0, 0), y -> y.with(0, 5, 1),
            y -> y.count(3)};
        for (int k = 0; k < calls.length; k++) {
            calls[k].on(x);
            due("states after call " + k, x.count(4), 2);
        }
        WishLimits full = Checks.tenOf("a small");
        due("undo()", full.undo(), 3);
        due("say()", full.say(), 9);
        due("undo()", full.undo(), 3);
        due("undo()", full.undo(), 2);
        due("undo() is no change", full.count(4), 2);
        full.say();
        full.say();
        due("four", full.count(4), 4);
        due("an eleventh", full.say(), FULL);
        due("undo()", full.undo(), 3);
        due("only the tenth is undone", full.count(0), 9);
    }

    // ---- the history

    private static void historyOfFour() {
        checks.sentence("A history of at most 4 states is kept");
        WishLimits x = new WishLimits();
        due("none", x.count(4), 0);
        due("none to undo", x.undo(), CANNOT);
        for (int k = 1; k <= 12; k++) {
            x.set(1, k);
            due("states after " + k, x.count(4), Math.min(k, 4));
        }
        for (int left = 3; left >= 0; left--) {
            due("undo()", x.undo(), left);
            due("states", x.count(4), left);
            due("the setting", x.count(21), 8 + left);
        }
        due("none to undo", x.undo(), CANNOT);
        due("the setting stays", x.count(21), 8);
        due("states", x.count(4), 0);
    }

    private static void oldestIsDropped() {
        checks.sentence("if there are 5 states then, the oldest one is dropped");
        for (int changes = 1; changes <= 9; changes++) {
            WishLimits x = new WishLimits();
            for (int k = 1; k <= changes; k++) {
                x.set(1, k);
            }
            int kept = Math.min(changes, 4);
            for (int k = 1; k <= kept; k++) {
                due("undo() of " + changes, x.undo(), kept - k);
                due("the setting", x.count(21), changes == k ? 100 : changes - k);
            }
            due("no more of " + changes, x.undo(), CANNOT);
        }
        WishLimits y = new WishLimits();
        for (int k = 1; k <= 40; k++) {
            y.set(1, k);
            y.set(1, 1000 + k);
            due("undo()", y.undo(), Math.min(k, 3));
            due("the setting", y.count(21), k);
        }
        due("undo() of the last", y.undo(), 2);
        due("the setting", y.count(21), 39);
    }

    private static void everythingIsRecorded() {
        checks.sentence("each change records everything before it");
        WishLimits x = Checks.of("a from 1 cm to 2 m", "b above a", "c about 5 cm");
        x.weigh(1, 7);
        String first = look(x);
        due("takeBack(1)", x.takeBack(1), 2);
        String second = look(x);
        due("set(0, 50)", x.set(0, 50), 10);
        String third = look(x);
        due("weigh(0, 9)", x.weigh(0, 9), 1);
        String fourth = look(x);
        due("say()", Checks.said(x, "e large"), 2);
        due("undo()", x.undo(), 3);
        dueSame("undo() of say()", look(x), fourth);
        due("undo()", x.undo(), 2);
        dueSame("undo() of weigh", look(x), third);
        due("undo()", x.undo(), 1);
        dueSame("undo() of set", look(x), second);
        due("undo()", x.undo(), 0);
        dueSame("undo() of takeBack", look(x), first);
        due("say()", x.say(), 3);
        due("takeBack(0)", x.takeBack(0), 3);
        due("undo()", x.undo(), 1);
        due("undo()", x.undo(), 0);
        dueSame("once more", look(x), first);
    }

    private static void everythingButTheText() {
        checks.sentence("records everything but the text");
        WishLimits x = Checks.of("a small");
        Checks.write(x, "b large");
        due("undo()", x.undo(), 0);
        due("the later text stays", x.count(5), 7);
        due("it is said", x.say(), 0);
        due("it is b", x.sentenceOf(0, 1), 1);
        due("clearText()", x.clearText(), 7);
        due("undo()", x.undo(), 0);
        due("an empty text stays", x.count(5), 0);
        due("an empty text stays", x.fault(0), 0);
    }

    private static void oneStateEach() {
        WishLimits x = Checks.tenOf("a small");
        for (int left = 3; left >= 0; left--) {
            due("undo()", x.undo(), left);
            due("sentences", x.count(0), 6 + left);
        }
        due("undo()", x.undo(), CANNOT);
        due("sentences", x.count(0), 6);
        due("takeBack(5)", x.takeBack(5), 5);
        due("one state", x.count(4), 1);
        due("undo()", x.undo(), 0);
        due("sentences", x.count(0), 6);
    }

    // ---- which error

    private static void argumentsAheadOfStates() {
        checks.sentence("INVALID_ARGUMENT is returned rather than NOT_POSSIBLE");
        WishLimits x = Checks.of("a is 1 mm", "a is 2 mm");
        for (int wrong : new int[] {-1, 5, LEAST, MOST}) {
            due("range(" + wrong + ", 0)", x.range(wrong, 0), BAD);
            due("range(0, " + wrong + ")", x.range(0, wrong), BAD);
            due("middle(" + wrong + ", 0)", x.middle(wrong, 0), BAD);
            due("middle(0, " + wrong + ")", x.middle(0, wrong), BAD);
            due("reason(" + wrong + ", 0)", x.reason(wrong, 0), BAD);
            due("reason(0, " + wrong + ")", x.reason(0, wrong), BAD);
            due("with(" + wrong + ", 0, 0)", x.with(wrong, 0, 0), BAD);
            due("with(0, 0, " + wrong + ")", x.with(0, 0, wrong), BAD);
        }
        due("with(0, -1, 0)", x.with(0, -1, 0), BAD);
        due("with(0, 100001, 0)", x.with(0, 100001, 0), BAD);
        due("range(0, 2)", x.range(0, 2), BAD);
        due("middle(0, 3)", x.middle(0, 3), BAD);
        due("reason(0, 2)", x.reason(0, 2), BAD);
        due("count(6)", x.count(6), BAD);
        due("the state alone: range", x.range(0, 1), CANNOT);
        due("the state alone: middle", x.middle(4, 2), CANNOT);
        due("the state alone: reason", x.reason(4, 1), CANNOT);
        due("the state alone: with", x.with(4, 0, 4), CANNOT);
        due("the state alone: count", x.count(3), CANNOT);
    }

    private static void statesAheadOfLimits() {
        checks.sentence("NOT_POSSIBLE rather than LIMIT_REACHED");
        WishLimits x = Checks.tenOf("a small");
        due("full", x.say(), FULL);
        for (String text : new String[] {"", "a smal", "a is 0.5 mm", "a from 2 m to 1 m",
            "a below a"}) {
            Checks.write(x, text);
            due("full, and a fault: \"" + text + "\"", x.say(), CANNOT);
        }
        Checks.write(x, "b below a");
        due("full again", x.say(), FULL);
    }

    private static void argumentsAheadOfLimits() {
        checks.sentence("INVALID_ARGUMENT rather than LIMIT_REACHED");
        WishLimits x = new WishLimits();
        for (int k = 0; k < 40; k++) {
            x.type(' ');
        }
        for (int wrong : new int[] {31, 127, 0, -1, 128, 65536 + 'a', LEAST, MOST}) {
            due("type(" + wrong + ")", x.type(wrong), BAD);
        }
        due("type(32)", x.type(32), FULL);
        due("type(126)", x.type(126), FULL);
    }

    private static void argumentsAheadOfNothingFound() {
        checks.sentence("INVALID_ARGUMENT rather than NOT_FOUND");
        WishLimits x = Checks.of("a small");
        for (int what : new int[] {2, 3, 4, 8}) {
            due("sentenceOf(0, " + what + ")", x.sentenceOf(0, what), NONE);
            for (int sentence : new int[] {-1, 1, 10, LEAST, MOST}) {
                due("sentenceOf(" + sentence + ", " + what + ")", x.sentenceOf(sentence, what), BAD);
            }
        }
        due("fault(0)", x.fault(0), NONE);
        due("fault(1)", x.fault(1), NONE);
        due("fault(2)", x.fault(2), BAD);
        due("fault(-1)", x.fault(-1), BAD);
    }

    // ---- errors change nothing

    private static Map<String, Call> wrongArguments() {
        Map<String, Call> calls = new LinkedHashMap<>();
        for (int wrong : new int[] {-1, 100001, LEAST, MOST}) {
            String of = "(" + wrong + ")";
            calls.put("takeBack" + of, x -> x.takeBack(wrong));
            calls.put("weigh, sentence" + of, x -> x.weigh(wrong, 5));
            calls.put("weigh, weight" + of, x -> x.weigh(0, wrong));
            calls.put("set, what" + of, x -> x.set(wrong, 5));
            calls.put("set, value" + of, x -> x.set(1, wrong));
            calls.put("sentenceOf, sentence" + of, x -> x.sentenceOf(wrong, 0));
            calls.put("sentenceOf, what" + of, x -> x.sentenceOf(0, wrong));
            calls.put("range, length" + of, x -> x.range(wrong, 0));
            calls.put("range, what" + of, x -> x.range(0, wrong));
            calls.put("middle, length" + of, x -> x.middle(wrong, 0));
            calls.put("middle, unit" + of, x -> x.middle(0, wrong));
            calls.put("reason, length" + of, x -> x.reason(wrong, 0));
            calls.put("reason, what" + of, x -> x.reason(0, wrong));
            calls.put("keep" + of, x -> x.keep(wrong));
            calls.put("broken" + of, x -> x.broken(1, 2, 3, 4, wrong));
            calls.put("with, length" + of, x -> x.with(wrong, 1, 1));
            calls.put("with, value" + of, x -> x.with(1, wrong, 1));
            calls.put("with, other" + of, x -> x.with(1, 1, wrong));
            calls.put("count" + of, x -> x.count(wrong));
            calls.put("type" + of, x -> x.type(wrong));
            calls.put("fault" + of, x -> x.fault(wrong));
        }
        calls.put("set(0, 51)", x -> x.set(0, 51));
        calls.put("set(2, 100001)", x -> x.set(2, 100001));
        calls.put("weigh(0, 0)", x -> x.weigh(0, 0));
        calls.put("weigh(0, 10)", x -> x.weigh(0, 10));
        calls.put("takeBack(10)", x -> x.takeBack(10));
        return calls;
    }

    private static void errorsOfANewObject() {
        checks.sentence("A call that returns an error changes nothing.");
        Maker maker = WishLimits::new;
        dueWithoutEffect(maker, wrongArguments(), BAD);
        Map<String, Call> calls = new LinkedHashMap<>();
        calls.put("say()", x -> x.say());
        calls.put("could()", x -> x.could());
        calls.put("undo()", x -> x.undo());
        dueWithoutEffect(maker, calls, CANNOT);
        calls.clear();
        calls.put("clash()", x -> x.clash());
        dueWithoutEffect(maker, calls, NONE);
    }

    private static void errorsOfAClash() {
        Maker maker = () -> {
            WishLimits x = Checks.of("a is 1 mm", "a from 2 mm to 3 cm", "b above c", "c about 9 m");
            x.weigh(1, 6);
            x.set(0, 33);
            Checks.write(x, "d below d");
            return x;
        };
        dueWithoutEffect(maker, wrongArguments(), BAD);
        Map<String, Call> calls = new LinkedHashMap<>();
        calls.put("say()", x -> x.say());
        calls.put("could()", x -> x.could());
        calls.put("range(0, 0)", x -> x.range(0, 0));
        calls.put("middle(0, 0)", x -> x.middle(0, 0));
        calls.put("reason(0, 0)", x -> x.reason(0, 0));
        calls.put("with(3, 3, 3)", x -> x.with(3, 3, 3));
        calls.put("count(3)", x -> x.count(3));
        dueWithoutEffect(maker, calls, CANNOT);
        calls.clear();
        calls.put("sentenceOf(0, 3)", x -> x.sentenceOf(0, 3));
        calls.put("sentenceOf(2, 2)", x -> x.sentenceOf(2, 2));
        calls.put("sentenceOf(0, 4)", x -> x.sentenceOf(0, 4));
        calls.put("sentenceOf(2, 8)", x -> x.sentenceOf(2, 8));
        dueWithoutEffect(maker, calls, NONE);
        calls.clear();
        calls.put("takeBack(4)", x -> x.takeBack(4));
        calls.put("weigh(4, 1)", x -> x.weigh(4, 1));
        dueWithoutEffect(maker, calls, BAD);
    }

    private static void errorsOfTenSentences() {
        Maker maker = () -> {
            WishLimits x = Checks.tenOf("e from 1 cm to 2 m");
            x.weigh(9, 4);
            Checks.write(x, "e large");
            return x;
        };
        Map<String, Call> calls = new LinkedHashMap<>();
        calls.put("say()", x -> x.say());
        dueWithoutEffect(maker, calls, FULL);
        calls.clear();
        calls.put("fault(0)", x -> x.fault(0));
        calls.put("fault(1)", x -> x.fault(1));
        calls.put("clash()", x -> x.clash());
        dueWithoutEffect(maker, calls, NONE);
        calls.clear();
        calls.put("takeBack(10)", x -> x.takeBack(10));
        calls.put("weigh(10, 1)", x -> x.weigh(10, 1));
        calls.put("sentenceOf(10, 0)", x -> x.sentenceOf(10, 0));
        dueWithoutEffect(maker, calls, BAD);
    }

    private static void errorsOfFortyCharacters() {
        Maker maker = () -> {
            WishLimits x = Checks.of("a small", "b small");
            Checks.write(x, "a from 000001.0 cm to 000001.0 m        ");
            return x;
        };
        Map<String, Call> calls = new LinkedHashMap<>();
        calls.put("type('a')", x -> x.type('a'));
        calls.put("type(' ')", x -> x.type(' '));
        dueWithoutEffect(maker, calls, FULL);
        calls.clear();
        calls.put("say()", x -> x.say());
        calls.put("could()", x -> x.could());
        dueWithoutEffect(maker, calls, CANNOT);
    }

    private static void dueWithoutEffect(Maker maker, Map<String, Call> calls, int error) {
        String untouched = lookAtAll(maker.make());
        for (Map.Entry<String, Call> call : calls.entrySet()) {
            WishLimits x = maker.make();
            due(call.getKey(), call.getValue().on(x), error);
            dueSame("after " + call.getKey(), lookAtAll(x), untouched);
        }
    }

    private static void dueSame(String what, String got, String want) {
        checks.holds(what + " looks like " + got + ", due is " + want, got.equals(want));
    }

    /** What can be seen of the sentences and the settings. */
    private static String look(WishLimits x) {
        StringBuilder seen = new StringBuilder();
        for (int what : new int[] {0, 2, 20, 21, 22}) {
            seen.append(x.count(what)).append(' ');
        }
        for (int k = 0; k < x.count(0); k++) {
            for (int what : new int[] {0, 1, 2, 3, 4, 5, 8}) {
                seen.append(x.sentenceOf(k, what)).append(' ');
            }
        }
        return seen.toString();
    }

    /** What can be seen at all; nothing of it but the text is left then. */
    private static String lookAtAll(WishLimits x) {
        StringBuilder seen = new StringBuilder();
        seen.append(x.fault(0)).append(' ').append(x.fault(1)).append(" | ").append(look(x));
        for (int states = x.count(4); states > 0; states--) {
            seen.append(" | ").append(x.undo()).append(' ').append(look(x));
        }
        seen.append(" | ").append(x.undo()).append(' ').append(x.count(0)).append(' ');
        seen.append(x.count(5)).append(' ').append(x.say()).append(' ').append(x.sentenceOf(0, 0));
        return seen.append(' ').append(x.clearText()).toString();
    }

    private static void noSuchSentence() {
        checks.sentence("If there is no sentence with a certain number, this is INVALID_ARGUMENT.");
        WishLimits x = new WishLimits();
        for (int size = 0; size <= 10; size++) {
            for (int sentence : new int[] {-1, size, size + 1, 32, LEAST, MOST}) {
                due("takeBack(" + sentence + ")", x.takeBack(sentence), BAD);
                due("weigh(" + sentence + ", 5)", x.weigh(sentence, 5), BAD);
                due("sentenceOf(" + sentence + ", 0)", x.sentenceOf(sentence, 0), BAD);
            }
            if (size < 10) {
                due("say()", Checks.said(x, "a small"), size);
            }
        }
        due("takeBack(9)", x.takeBack(9), 9);
        due("none is left there", x.takeBack(9), BAD);
        due("undo()", x.undo(), 3);
        due("undo()", x.undo(), 2);
        due("none is left there", x.sentenceOf(9, 0), BAD);
        due("none is left there", x.weigh(9, 1), BAD);
        due("the one ahead is", x.sentenceOf(8, 0), 7);
    }
}

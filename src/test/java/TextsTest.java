/** The document's "Texts": each sentence that names an edge has the checks that stand below it. */
public final class TextsTest {
    private static final int BAD = WishLimits.INVALID_ARGUMENT;
    private static final int CANNOT = WishLimits.NOT_POSSIBLE;
    private static final int FULL = WishLimits.LIMIT_REACHED;
    private static final int NONE = WishLimits.NOT_FOUND;
    private static final String[] KINDS = {"a at least 0 mm", "b at most 12 cm", "c is 1.5 m",
        "d from 3 cm to 0.5 m", "e about 000001 mm", "a below e", "b above d", "c small", "d large"};
    private static final String LONGEST = "a from 000100.0 cm to 000001.0 m";

    private static final Checks checks = new Checks();

    public static void main(String[] args) {
        fortyCharacters();
        words();
        blanks();
        wrongLetters();
        units();
        numbers();
        secondNumbers();
        noFault();
        endsTooEarly();
        firstWrongCharacter();
        commonBeginnings();
        wrongSignGoesAhead();
        noWholeMillimeters();
        aboveGreatest();
        firstSuchValue();
        secondLess();
        sameLengths();
        checks.end();
    }

    private static void due(String call, long got, long want) {
        checks.due(call, got, want);
    }

    /** The text has this fault, and no call takes it for a sentence. */
    private static void dueFault(String text, int place, int reason) {
        WishLimits x = new WishLimits();
        Checks.write(x, text);
        String call = "\"" + text + "\": ";
        due(call + "fault(0)", x.fault(0), place);
        due(call + "fault(1)", x.fault(1), reason);
        due(call + "say()", x.say(), CANNOT);
        due(call + "could()", x.could(), CANNOT);
        due(call + "count(5)", x.count(5), text.length());
        due(call + "count(0)", x.count(0), 0);
    }

    private static WishLimits dueRight(String text) {
        WishLimits x = new WishLimits();
        Checks.write(x, text);
        String call = "\"" + text + "\": ";
        due(call + "fault(0)", x.fault(0), NONE);
        due(call + "fault(1)", x.fault(1), NONE);
        due(call + "could()", x.could(), 1);
        due(call + "say()", x.say(), 0);
        due(call + "count(5)", x.count(5), text.length());
        return x;
    }

    private static void fortyCharacters() {
        checks.sentence("There is a text of at most 40 characters, initially empty.");
        WishLimits x = new WishLimits();
        due("empty", x.count(5), 0);
        due("empty: fault(0)", x.fault(0), 0);
        due("empty: fault(1)", x.fault(1), 1);
        due("empty: clearText()", x.clearText(), 0);
        Checks.write(x, LONGEST);
        due("the longest sentence", x.count(5), 32);
        due("the longest sentence", x.say(), 0);
        for (int length = 33; length <= 40; length++) {
            due("type(32)", x.type(' '), length);
            due("fault(0)", x.fault(0), 32);
            due("fault(1)", x.fault(1), 1);
        }
        due("a 41st", x.type(' '), FULL);
        due("a 41st again", x.type('a'), FULL);
        due("40", x.count(5), 40);
        due("clearText()", x.clearText(), 40);
        due("then a first", x.type('a'), 1);
        due("none of the old ones stays", x.fault(0), 1);
        WishLimits all = new WishLimits();
        for (int k = 0; k < 40; k++) {
            due("type", all.type("a at least 9 mm".charAt(k % 15)), k + 1);
        }
        due("40 characters: fault(0)", all.fault(0), 15);
        due("40 characters: say()", all.say(), CANNOT);
    }

    private static void words() {
        checks.sentence("A sentence is told by it just as above");
        int[][] due = {{0, 0, 0, NONE, NONE}, {1, 1, 120, NONE, NONE}, {2, 2, 1500, NONE, NONE},
            {3, 3, 30, 500, NONE}, {4, 4, 1, NONE, NONE}, {5, 0, NONE, NONE, 4},
            {6, 1, NONE, NONE, 3}, {7, 2, NONE, NONE, NONE}, {8, 3, NONE, NONE, NONE}};
        for (int kind = 0; kind < KINDS.length; kind++) {
            WishLimits x = dueRight(KINDS[kind]);
            for (int what = 0; what < 5; what++) {
                due(KINDS[kind] + ": " + what, x.sentenceOf(0, what), due[kind][what]);
            }
        }
        dueFault("a at 5 mm", 5, 1);
        dueFault("a under b", 2, 1);
        dueFault("a equals 5 mm", 2, 1);
        dueFault("a from 5 mm until 6 mm", 12, 1);
        dueFault("a from 5 mm", 11, 1);
        dueFault("a is 5 mm to 6 mm", 9, 1);
        dueFault("a small b", 7, 1);
        dueFault("a small 5 mm", 7, 1);
        dueFault("a small.", 7, 1);
        dueFault("a below 5 mm", 8, 1);
        dueFault("a above b c", 9, 1);
        dueFault("a is b", 5, 1);
        dueFault("at least 5 mm", 1, 1);
    }

    private static void blanks() {
        checks.sentence("the words with one blank between two of them");
        for (String text : KINDS) {
            dueFault(" " + text, 0, 1);
            dueFault(text + " ", text.length(), 1);
            for (int k = text.indexOf(' '); k >= 0; k = text.indexOf(' ', k + 1)) {
                dueFault(text.substring(0, k) + text.substring(k + 1), k, 1);
                dueFault(text.substring(0, k) + " " + text.substring(k), k + 1, 1);
                dueFault(text.substring(0, k) + "_" + text.substring(k + 1), k, 1);
            }
        }
    }

    private static void wrongLetters() {
        for (String text : KINDS) {
            for (int k = 0; k < text.length(); k++) {
                char sign = text.charAt(k);
                if (sign >= 'a' && sign <= 'z') {
                    String big = text.substring(0, k) + (char) (sign - 32) + text.substring(k + 1);
                    dueFault(big, k, 1);
                }
            }
        }
    }

    private static void units() {
        checks.sentence("a length being its letter, a value being a number, a blank, and \"mm\","
                + " \"cm\" or \"m\"");
        due("5 mm", dueRight("a is 5 mm").sentenceOf(0, 2), 5);
        due("5 cm", dueRight("a is 5 cm").sentenceOf(0, 2), 50);
        due("5 m", dueRight("a is 5 m").sentenceOf(0, 2), 5000);
        dueFault("a is 5", 6, 1);
        dueFault("a is 5 ", 7, 1);
        dueFault("a is 5 c", 8, 1);
        dueFault("a is 5mm", 6, 1);
        dueFault("a is 5 mmm", 9, 1);
        dueFault("a is 5 cmm", 9, 1);
        dueFault("a is 5 cc", 8, 1);
        dueFault("a is 5 mc", 8, 1);
        dueFault("a is 5 km", 7, 1);
        dueFault("a is 5 in", 7, 1);
        dueFault("a is 5 l", 7, 1);
        dueFault("a is 5 n", 7, 1);
        dueFault("a is 5 b", 7, 1);
        dueFault("a is 5 d", 7, 1);
        dueFault("a from 5 to 6 mm", 9, 1);
        dueFault("a from 5 mto 6 m", 10, 1);
        dueFault("a from 5 m to 6", 15, 1);
        dueFault("a from 5 m to 6 c", 17, 1);
    }

    private static void numbers() {
        checks.sentence("a number is 1 to 6 digits (0 ahead allowed), and perhaps \".\" and one"
                + " digit");
        String[] right = {"0", "7", "000007", "007", "7.0", "000007.0", "100000", "100000.0", "0.0"};
        int[] due = {0, 7, 7, 7, 7, 7, 100000, 100000, 0};
        for (int k = 0; k < right.length; k++) {
            due(right[k], dueRight("b is " + right[k] + " mm").sentenceOf(0, 2), due[k]);
        }
        for (char digit = '0'; digit <= '9'; digit++) {
            due("a digit", dueRight("b is " + digit + " mm").sentenceOf(0, 2), digit - '0');
            due("a tenth", dueRight("b is 1." + digit + " cm").sentenceOf(0, 2), 10 + digit - '0');
        }
        due("all places", dueRight("b is 65432 mm").sentenceOf(0, 2), 65432);
        due("all places", dueRight("b is 012345.0 mm").sentenceOf(0, 2), 12345);
        due("a tenth of a meter", dueRight("b is 12.3 m").sentenceOf(0, 2), 12300);
        dueFault("b is  mm", 5, 1);
        dueFault("b is mm", 5, 1);
        dueFault("b is 0000007 mm", 11, 1);
        dueFault("b is 1000000 mm", 11, 1);
        dueFault("b is 0000007", 11, 1);
        dueFault("b is 000000000000000000007 mm", 11, 1);
        dueFault("b is .7 cm", 5, 1);
        dueFault("b is 7. cm", 7, 1);
        dueFault("b is 7.", 7, 1);
        dueFault("b is 7.00 cm", 8, 1);
        dueFault("b is 000007.00 cm", 13, 1);
        dueFault("b is 0000007.0 cm", 11, 1);
        dueFault("b is 7.0.0 cm", 8, 1);
        dueFault("b is 7..0 cm", 7, 1);
        dueFault("b is 7,0 cm", 6, 1);
        dueFault("b is -7 cm", 5, 1);
        dueFault("b is +7 cm", 5, 1);
        dueFault("b is 7/ cm", 6, 1);
        dueFault("b is 7: cm", 6, 1);
        dueFault("b is / cm", 5, 1);
        dueFault("b is : cm", 5, 1);
        dueFault("b is 7./ cm", 7, 1);
        dueFault("b is 7.: cm", 7, 1);
        dueFault("b is 7e1 cm", 6, 1);
    }

    private static void secondNumbers() {
        due("v", dueRight(LONGEST).sentenceOf(0, 2), 1000);
        due("w", dueRight(LONGEST).sentenceOf(0, 3), 1000);
        due("w", dueRight("a from 0 mm to 000009.9 m").sentenceOf(0, 3), 9900);
        dueFault("a from 0 mm to  mm", 15, 1);
        dueFault("a from 0 mm to 0000007 mm", 21, 1);
        dueFault("a from 0 mm to .7 cm", 15, 1);
        dueFault("a from 0 mm to 7. cm", 17, 1);
        dueFault("a from 0 mm to 7.77 cm", 18, 1);
    }

    private static void noFault() {
        checks.sentence("A fault of the text has a place, and a reason");
        for (String text : KINDS) {
            WishLimits x = dueRight(text);
            for (int what : new int[] {-1, 2, Integer.MIN_VALUE, Integer.MAX_VALUE}) {
                due("fault(" + what + ")", x.fault(what), BAD);
            }
            due("type('!')", x.type('!'), text.length() + 1);
            due("a fault now", x.fault(0), text.length());
            due("its reason", x.fault(1), 1);
            for (int what : new int[] {-1, 2, Integer.MIN_VALUE, Integer.MAX_VALUE}) {
                due("fault(" + what + ")", x.fault(what), BAD);
            }
        }
    }

    private static void endsTooEarly() {
        checks.sentence("reason 1: the length of the text if it ends too early");
        for (String text : KINDS) {
            for (int k = 0; k < text.length(); k++) {
                boolean isWhole = text.endsWith("mm") && k == text.length() - 1;
                if (!isWhole) {
                    dueFault(text.substring(0, k), k, 1);
                }
            }
        }
        due("too early for mm, not for m", dueRight("a at least 7 m").sentenceOf(0, 2), 7000);
    }

    private static void firstWrongCharacter() {
        checks.sentence("reason 1: a character that is not allowed there (the place of the first"
                + " such character)");
        for (String text : KINDS) {
            for (int k = 0; k <= text.length(); k++) {
                for (char sign : new char[] {' ', '~', '!', 'x', '\''}) {
                    boolean isThere = k < text.length() && text.charAt(k) == sign;
                    boolean mayBeThere = sign == ' ' && mayEndNumber(text, k);
                    if (!isThere && !mayBeThere) {
                        dueFault(text.substring(0, k) + sign, k, 1);
                        dueFault(text.substring(0, k) + sign + "~x", k, 1);
                        dueFault(text.substring(0, k) + sign + text.substring(k), k, 1);
                    }
                }
            }
        }
    }

    /** After a digit of a number, and after an m of the first value of two, a blank may stand. */
    private static boolean mayEndNumber(String text, int k) {
        String start = text.substring(0, k);
        return start.matches(".* [0-9.]*[0-9]") || start.matches("d from .* c?mm?");
    }

    private static void commonBeginnings() {
        dueFault("a a", 3, 1);
        dueFault("a ab", 4, 1);
        dueFault("a abx", 4, 1);
        dueFault("a at", 4, 1);
        dueFault("a at ", 5, 1);
        dueFault("a at x", 5, 1);
        dueFault("a at l", 6, 1);
        dueFault("a at lost 5 mm", 6, 1);
        dueFault("a at mess", 6, 1);
        dueFault("a l", 3, 1);
        dueFault("a least 5 mm", 3, 1);
        dueFault("a aboxe b", 5, 1);
        dueFault("a abouve b", 6, 1);
        dueFault("a about b", 8, 1);
        dueFault("a above 5 mm", 8, 1);
        dueFault("a smalls", 7, 1);
        dueFault("a larger", 7, 1);
        dueFault("a is5 mm", 4, 1);
    }

    private static void wrongSignGoesAhead() {
        checks.sentence("otherwise 2");
        dueFault("a is 0.1 mmx", 11, 1);
        dueFault("a is 0.1 m ", 10, 1);
        dueFault("a is 101 m.", 10, 1);
        dueFault("a from 0.1 mm to 5", 18, 1);
        dueFault("a from 101 m to 5 k", 18, 1);
        dueFault("a from 2 m to 1 m ", 17, 1);
        dueFault("a from 2 m to 1 c", 17, 1);
        dueFault("a below a ", 9, 1);
        dueFault("a above aa", 9, 1);
    }

    private static void noWholeMillimeters() {
        checks.sentence("2: a value is no whole number of millimeters (the place of the first digit"
                + " of its number)");
        String[] starts = {"a at least ", "a at most ", "a is ", "a about "};
        for (String start : starts) {
            int place = start.length();
            for (int tenth = 1; tenth <= 9; tenth++) {
                dueFault(start + "0." + tenth + " mm", place, 2);
                due("cm", dueRight(start + "0." + tenth + " cm").sentenceOf(0, 2), tenth);
                due("m", dueRight(start + "0." + tenth + " m").sentenceOf(0, 2), tenth * 100);
            }
            dueFault(start + "099999.9 mm", place, 2);
            dueFault(start + "000001.5 mm", place, 2);
            due("no tenth", dueRight(start + "99999.0 mm").sentenceOf(0, 2), 99999);
        }
        dueFault("a from 0.5 mm to 5 mm", 7, 2);
        dueFault("a from 5 mm to 5.5 mm", 15, 2);
    }

    private static void aboveGreatest() {
        checks.sentence("2: a value is above 100000 (the place of the first digit of its number)");
        String[] starts = {"a at least ", "a at most ", "a is ", "a about "};
        String[] greatest = {"100000 mm", "100000.0 mm", "10000 cm", "10000.0 cm", "100 m", "100.0 m",
            "000100 m"};
        String[] above = {"100001 mm", "100001.0 mm", "100000.1 mm", "10000.1 cm", "10001 cm",
            "100.1 m", "101 m", "000101 m", "999999 mm", "999999 cm", "999999 m", "999999.9 m",
            "429497 m", "429496.8 m", "214749 m", "214748.4 m", "858994 m", "42950 m", "500000 cm"};
        for (String start : starts) {
            for (String value : greatest) {
                due(value, dueRight(start + value).sentenceOf(0, 2), 100000);
            }
            for (String value : above) {
                dueFault(start + value, start.length(), 2);
            }
        }
        due("w", dueRight("a from 0 mm to 100 m").sentenceOf(0, 3), 100000);
        due("v", dueRight("a from 100 m to 100 m").sentenceOf(0, 2), 100000);
        dueFault("a from 0 mm to 100001 mm", 15, 2);
        dueFault("a from 0 mm to 100.1 m", 15, 2);
        dueFault("a from 100001 mm to 5 mm", 7, 2);
    }

    private static void firstSuchValue() {
        checks.sentence("2: of the first such value");
        dueFault("a from 0.1 mm to 0.2 mm", 7, 2);
        dueFault("a from 101 m to 102 m", 7, 2);
        dueFault("a from 0.1 mm to 101 m", 7, 2);
        dueFault("a from 101 m to 0.1 mm", 7, 2);
        dueFault("a from 0.1 mm to 0 mm", 7, 2);
        dueFault("a from 1 mm to 0.9 mm", 15, 2);
        dueFault("a from 1 cm to 101 m", 15, 2);
    }

    private static void secondLess() {
        checks.sentence("otherwise 3: the second value is less than the first one (the place of the"
                + " first digit of the second number)");
        dueFault("a from 1 mm to 0 mm", 15, 3);
        dueFault("a from 5 mm to 4 mm", 15, 3);
        dueFault("a from 5 cm to 49 mm", 15, 3);
        dueFault("a from 1 m to 99.9 cm", 14, 3);
        dueFault("a from 000002.0 m to 000001.9 m", 21, 3);
        dueFault("a from 100000 mm to 99999 mm", 20, 3);
        dueFault("a from 100 m to 0 m", 16, 3);
        dueRight("a from 0 mm to 0 m");
        dueRight("a from 5 mm to 5 mm");
        dueRight("a from 5 mm to 6 mm");
        dueRight("a from 100 cm to 1 m");
        dueRight("a from 50 mm to 6 cm");
        dueRight("a from 100000 mm to 100 m");
        dueFault("a from 5 mm to 4.9 mm", 15, 2);
        dueFault("a from 100001 mm to 100000 mm", 7, 2);
    }

    private static void sameLengths() {
        checks.sentence("otherwise 4: both lengths are the same (the place of the second one)");
        for (char first = 'a'; first <= 'e'; first++) {
            for (char second = 'a'; second <= 'e'; second++) {
                String below = first + " below " + second;
                String above = first + " above " + second;
                if (first == second) {
                    dueFault(below, 8, 4);
                    dueFault(above, 8, 4);
                } else {
                    dueRight(below);
                    dueRight(above);
                }
            }
        }
    }
}

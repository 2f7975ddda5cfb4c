/** Counts the answers that are not as due; what all tests of the project share. */
final class Checks {
    private int checked = 0;
    private int wrong = 0;

    void due(String call, long got, long want) {
        checked++;
        if (got != want) {
            wrong++;
            System.out.println(call + " answered " + got + ", due is " + want);
        }
    }

    void holds(String what, boolean so) {
        due(what, so ? 1 : 0, 1);
    }

    boolean allRight() {
        return wrong == 0;
    }

    /** Ends the test, with exit code 1 if an answer was wrong. */
    void end() {
        System.out.println(checked + " checks, " + wrong + " wrong");
        if (wrong != 0 || checked == 0) {
            System.exit(1);
        }
    }

    /** Makes this the text of the object. */
    static void write(WishLimits wishes, String text) {
        wishes.clearText();
        for (int k = 0; k < text.length(); k++) {
            wishes.type(text.charAt(k));
        }
    }

    /** Says a sentence; returns what say() answers. */
    static int said(WishLimits wishes, String text) {
        write(wishes, text);
        return wishes.say();
    }

    /** A new object with these sentences. */
    static WishLimits of(String... sentences) {
        WishLimits wishes = new WishLimits();
        for (String sentence : sentences) {
            if (said(wishes, sentence) < 0) {
                throw new IllegalStateException("the test's own sentence is not said: " + sentence);
            }
        }
        return wishes;
    }
}

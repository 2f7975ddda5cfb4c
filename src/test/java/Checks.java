/** Counts the answers that are not as due; what all tests of the project share. */
final class Checks {
    private int checked = 0;
    private int wrong = 0;
    private int sentences = 0;
    private int checkedAhead = 0;
    private String sentence = "";

    void due(String call, long got, long want) {
        checked++;
        if (got != want) {
            wrong++;
            System.out.println(call + " answered " + got + ", due is " + want + sentence);
        }
    }

    void holds(String what, boolean so) {
        due(what, so ? 1 : 0, 1);
    }

    boolean allRight() {
        return wrong == 0;
    }

    /** The checks from here on are those of this sentence of the document. */
    void sentence(String ofTheDocument) {
        hasChecks();
        sentences++;
        checkedAhead = checked;
        sentence = " [" + ofTheDocument + "]";
    }

    private void hasChecks() {
        if (sentences > 0 && checked == checkedAhead) {
            wrong++;
            System.out.println("no check for the sentence" + sentence);
        }
    }

    /** Ends the test, with exit code 1 if an answer was wrong. */
    void end() {
        hasChecks();
        String about = sentences > 0 ? " of " + sentences + " sentences" : "";
        System.out.println(checked + " checks" + about + ", " + wrong + " wrong");
        if (wrong != 0 || checked == 0) {
            System.exit(1);
        }
    }

    /** Makes this the text of the object. */
    static void write(WishLimits wishes, String text) {
        wishes.clearText();
        for (int k = 0; k < text.length(); k++) {
            wishes.type(text.charAt(k));
        }
    }

    /** Says a sentence; returns what say() answers. */
    static int said(WishLimits wishes, String text) {
        write(wishes, text);
        return wishes.say();
    }

    /** A new object with these sentences. */
    static WishLimits of(String... sentences) {
        WishLimits wishes = new WishLimits();
        for (String sentence : sentences) {
            if (said(wishes, sentence) < 0) {
                throw new IllegalStateException("the test's own sentence is not said: " + sentence);
            }
        }
        return wishes;
    }

    /** A new object with ten sentences alike. */
    static WishLimits tenOf(String sentence) {
        WishLimits wishes = of(sentence);
        for (int k = 1; k < 10; k++) {
            wishes.say();
        }
        return wishes;
    }
}

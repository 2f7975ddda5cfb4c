/**
 * Wishes in plain sentences about five lengths: what the sentences leave of each length, which of
 * them clash, and why. Every answer is an int; a negative one is one of the error constants.
 */
public final class WishLimits {
    public static final int INVALID_ARGUMENT = -1000001;
    public static final int NOT_POSSIBLE = -1000002;
    public static final int LIMIT_REACHED = -1000003;
    public static final int NOT_FOUND = -1000004;

    private static final int LENGTHS = 5;
    private static final int GREATEST_LENGTH = 100000;
    private static final int SENTENCES = 10;
    private static final int SETS = 1 << SENTENCES;
    private static final int STATES = 4;
    private static final int SIGNS = 40;
    private static final int GREATEST_WEIGHT = 9;

    private static final int AT_LEAST = 0;
    private static final int AT_MOST = 1;
    private static final int IS = 2;
    private static final int FROM_TO = 3;
    private static final int ABOUT = 4;
    private static final int BELOW = 5;
    private static final int ABOVE = 6;
    private static final int SMALL = 7;
    private static final int LARGE = 8;
    private static final int KINDS = 9;

    private static final int MILLIMETER = 0;
    private static final int CENTIMETER = 1;
    private static final int METER = 2;
    private static final int UNITS = 3;
    private static final int[] MILLIMETERS = {1, 10, 1000};

    private static final int ABOUT_PERCENT = 0;
    private static final int GREATEST_SMALL = 1;
    private static final int LEAST_LARGE = 2;
    private static final int SETTINGS = 3;
    private static final int[] GREATEST_SETTING = {50, GREATEST_LENGTH, GREATEST_LENGTH};

    private final State now = new State();
    private final State[] history = new State[STATES];
    private int states = 0;
    private final Text text = new Text();
    private final Sentence told = new Sentence();
    private final Bounds bounds = new Bounds();
    private final boolean[] together = new boolean[SETS];
    private final int[] values = new int[LENGTHS];

    /** Creates lengths without wishes. */
    public WishLimits() {
        for (int k = 0; k < STATES; k++) {
            history[k] = new State();
        }
    }

    // ---- sentences

    /** Says the sentence of the text; returns its number. */
    public int say() {
        if (text.examine() != Text.NO_FAULT) {
            return NOT_POSSIBLE;
        }
        if (now.size >= SENTENCES) {
            return LIMIT_REACHED;
        }
        text.tell(told);
        remember();
        now.append(told);
        return now.size - 1;
    }

    /** Takes a sentence back; returns how many there are then. */
    public int takeBack(int sentence) {
        if (!isSentence(sentence)) {
            return INVALID_ARGUMENT;
        }
        remember();
        now.remove(sentence);
        return now.size;
    }

    /** Sets the weight of a sentence; returns what it was. */
    public int weigh(int sentence, int weight) {
        if (!isSentence(sentence) || !isWithin(weight, 1, GREATEST_WEIGHT)) {
            return INVALID_ARGUMENT;
        }
        remember();
        int before = now.sentences[sentence].weight;
        now.sentences[sentence].weight = weight;
        return before;
    }

    /** Sets a setting; returns what it was. */
    public int set(int what, int value) {
        if (!isWithin(what, 0, SETTINGS - 1) || !isWithin(value, 0, GREATEST_SETTING[what])) {
            return INVALID_ARGUMENT;
        }
        remember();
        int before = now.settings[what];
        now.settings[what] = value;
        return before;
    }

    /** Returns something of a sentence. */
    public int sentenceOf(int sentence, int what) {
        if (!isSentence(sentence)) {
            return INVALID_ARGUMENT;
        }
        Sentence asked = now.sentences[sentence];
        switch (what) {
            case 0: return asked.kind;
            case 1: return asked.first;
            case 2: return asked.hasValue() ? asked.low : NOT_FOUND;
            case 3: return asked.kind == FROM_TO ? asked.high : NOT_FOUND;
            case 4: return asked.isOrder() ? asked.second : NOT_FOUND;
            case 5: return asked.weight;
            case 6: return asked.leastAlone(now.settings);
            case 7: return asked.greatestAlone(now.settings);
            case 8: return asked.hasValue() ? asked.unit : NOT_FOUND;
            default: return INVALID_ARGUMENT;
        }
    }

    // ---- ranges

    /** Tells an end of the range of a length, in mm. */
    public int range(int length, int what) {
        if (!isLength(length) || !isWithin(what, 0, 1)) {
            return INVALID_ARGUMENT;
        }
        if (!isPossible(everything())) {
            return NOT_POSSIBLE;
        }
        return bounds.end(length, what);
    }

    /** Returns the bits of the middle of the range of a length, in a unit, as a float. */
    public int middle(int length, int unit) {
        if (!isLength(length) || !isWithin(unit, 0, UNITS - 1)) {
            return INVALID_ARGUMENT;
        }
        if (!isPossible(everything())) {
            return NOT_POSSIBLE;
        }
        float sum = (float) bounds.end(length, 0) + (float) bounds.end(length, 1);
        return bitsOf(sum / (float) (2 * MILLIMETERS[unit]));
    }

    /** Finds the fewest sentences that are the reason of an end of the range of a length. */
    public int reason(int length, int what) {
        if (!isLength(length) || !isWithin(what, 0, 1)) {
            return INVALID_ARGUMENT;
        }
        int best = everything();
        if (!isPossible(best)) {
            return NOT_POSSIBLE;
        }
        int end = bounds.end(length, what);
        int sets = 1 << now.size;
        for (int set = 0; set < sets; set++) {
            if (Integer.bitCount(set) < Integer.bitCount(best) && isPossible(set)
                    && bounds.end(length, what) == end) {
                best = set;
            }
        }
        return best;
    }

    // ---- contradictions

    /** Finds the fewest sentences that cannot be together. */
    public int clash() {
        int sets = findTogether();
        int best = NOT_FOUND;
        int fewest = SENTENCES + 1;
        for (int set = 0; set < sets; set++) {
            if (!together[set] && Integer.bitCount(set) < fewest) {
                best = set;
                fewest = Integer.bitCount(set);
            }
        }
        return best;
    }

    /** Counts the sets that cannot be together, but can if any one sentence is left out. */
    public int clashes() {
        int sets = findTogether();
        int found = 0;
        for (int set = 0; set < sets; set++) {
            if (!together[set] && isTogetherWithoutAny(set)) {
                found++;
            }
        }
        return found;
    }

    /** Finds the heaviest sentences that can be together: their set, or their weight. */
    public int keep(int what) {
        if (!isWithin(what, 0, 1)) {
            return INVALID_ARGUMENT;
        }
        int sets = findTogether();
        int best = 0;
        int heaviest = 0;
        for (int set = 0; set < sets; set++) {
            if (together[set] && now.weightOf(set) > heaviest) {
                best = set;
                heaviest = now.weightOf(set);
            }
        }
        return what == 0 ? best : heaviest;
    }

    /** Tells whether the sentence of the text can be together with all sentences. */
    public int could() {
        if (text.examine() != Text.NO_FAULT || !isPossible(everything())) {
            return NOT_POSSIBLE;
        }
        text.tell(told);
        gather(everything());
        bounds.add(told, now.settings);
        return bounds.settle() ? 1 : 0;
    }

    // ---- values that are told

    /** Tells which sentences are broken by values of all lengths. */
    public int broken(int first, int second, int third, int fourth, int fifth) {
        values[0] = first;
        values[1] = second;
        values[2] = third;
        values[3] = fourth;
        values[4] = fifth;
        for (int length = 0; length < LENGTHS; length++) {
            if (!isWithin(values[length], 0, GREATEST_LENGTH)) {
                return INVALID_ARGUMENT;
            }
        }
        int set = 0;
        for (int k = 0; k < now.size; k++) {
            if (!now.sentences[k].holds(values, now.settings)) {
                set |= 1 << k;
            }
        }
        return set;
    }

    /** Returns the least value of a length, if another one has a value. */
    public int with(int length, int value, int other) {
        if (!isLength(length) || !isWithin(value, 0, GREATEST_LENGTH) || !isLength(other)) {
            return INVALID_ARGUMENT;
        }
        gather(everything());
        bounds.narrow(length, value, value);
        return bounds.settle() ? bounds.end(other, 0) : NOT_POSSIBLE;
    }

    /** Returns a number: of sentences, states, signs, or a setting. */
    public int count(int what) {
        switch (what) {
            case 0: return now.size;
            case 1: return now.doubtfulOnes();
            case 2: return isPossible(everything()) ? 1 : 0;
            case 3: return isPossible(everything()) ? bounds.singles() : NOT_POSSIBLE;
            case 4: return states;
            case 5: return text.length;
            case 20: return now.settings[ABOUT_PERCENT];
            case 21: return now.settings[GREATEST_SMALL];
            case 22: return now.settings[LEAST_LARGE];
            default: return INVALID_ARGUMENT;
        }
    }

    /** Restores the latest state of the history; returns how many are left. */
    public int undo() {
        if (states <= 0 || states > STATES) {
            return NOT_POSSIBLE;
        }
        states--;
        now.copyFrom(history[states]);
        return states;
    }

    // ---- texts

    /** Appends a character to the text; returns its length. */
    public int type(int character) {
        if (!isWithin(character, 32, 126)) {
            return INVALID_ARGUMENT;
        }
        return text.append((char) character) ? text.length : LIMIT_REACHED;
    }

    /** Empties the text; returns the length it had. */
    public int clearText() {
        int before = text.length;
        text.length = 0;
        return before;
    }

    /** Tells the place or the reason of the fault of the text. */
    public int fault(int what) {
        if (!isWithin(what, 0, 1)) {
            return INVALID_ARGUMENT;
        }
        int reason = text.examine();
        if (reason == Text.NO_FAULT) {
            return NOT_FOUND;
        }
        return what == 0 ? text.faultPlace : reason;
    }

    // ---- parts of the calls

    private static boolean isWithin(int value, int low, int high) {
        return value >= low && value <= high;
    }

    private static boolean isLength(int length) {
        return length >= 0 && length < LENGTHS;
    }

    private boolean isSentence(int sentence) {
        return sentence >= 0 && sentence < now.size;
    }

    private int everything() {
        return (1 << now.size) - 1;
    }

    private void remember() {
        if (states >= STATES) {
            // The oldest state's rows serve again, so that a change makes no new object.
            State oldest = history[0];
            for (int k = 1; k < STATES; k++) {
                history[k - 1] = history[k];
            }
            history[STATES - 1] = oldest;
            states--;
        }
        history[states].copyFrom(now);
        states++;
    }

    private void gather(int set) {
        bounds.open();
        for (int k = 0; k < now.size; k++) {
            if ((set >> k & 1) == 1) {
                bounds.add(now.sentences[k], now.settings);
            }
        }
    }

    /** Leaves the ranges of the set's sentences in the bounds. */
    private boolean isPossible(int set) {
        gather(set);
        return bounds.settle();
    }

    /** Fills the row of the sets that can be together; returns how many sets there are. */
    private int findTogether() {
        int sets = 1 << now.size;
        for (int set = 0; set < sets; set++) {
            // A set with a clash inside needs no reckoning; smaller sets stand ahead in the row.
            together[set] = isTogetherWithoutAny(set) && isPossible(set);
        }
        return sets;
    }

    private boolean isTogetherWithoutAny(int set) {
        for (int k = 0; k < now.size; k++) {
            if ((set >> k & 1) == 1 && !together[set - (1 << k)]) {
                return false;
            }
        }
        return true;
    }

    /** The bits of a float that is 0 or a normal positive one: the language has no call for it. */
    private static int bitsOf(float value) {
        if (!(value > 0f)) {
            return 0;
        }
        float rest = value;
        int exponent = 127;
        for (int step = 0; step < 128 && rest >= 2f; step++) {
            rest = rest / 2f;
            exponent++;
        }
        for (int step = 0; step < 128 && rest < 1f; step++) {
            rest = rest * 2f;
            exponent--;
        }
        return (exponent << 23) + (int) ((rest - 1f) * 8388608f);
    }

    /** One sentence; which of its numbers mean something goes with its kind. */
    private static final class Sentence {
        private int kind = 0;
        private int first = 0;
        private int second = 0;
        private int low = 0;
        private int high = 0;
        private int unit = 0;
        private int weight = 1;

        private void copyFrom(Sentence other) {
            kind = other.kind;
            first = other.first;
            second = other.second;
            low = other.low;
            high = other.high;
            unit = other.unit;
            weight = other.weight;
        }

        private boolean hasValue() {
            return kind <= ABOUT;
        }

        private boolean isOrder() {
            return kind == BELOW || kind == ABOVE;
        }

        private boolean isDoubtful() {
            return kind == ABOUT || kind == SMALL || kind == LARGE;
        }

        private int lowerOne() {
            return kind == BELOW ? first : second;
        }

        private int upperOne() {
            return kind == BELOW ? second : first;
        }

        private int leastAlone(int[] settings) {
            switch (kind) {
                case AT_LEAST: return low;
                case IS: return low;
                case FROM_TO: return low;
                case ABOUT: return low - low * settings[ABOUT_PERCENT] / 100;
                case ABOVE: return 1;
                case LARGE: return settings[LEAST_LARGE];
                default: return 0;
            }
        }

        private int greatestAlone(int[] settings) {
            switch (kind) {
                case AT_MOST: return low;
                case IS: return low;
                case FROM_TO: return high;
                case ABOUT:
                    return Math.min(GREATEST_LENGTH, low + low * settings[ABOUT_PERCENT] / 100);
                case BELOW: return GREATEST_LENGTH - 1;
                case SMALL: return settings[GREATEST_SMALL];
                default: return GREATEST_LENGTH;
            }
        }

        private boolean holds(int[] values, int[] settings) {
            if (isOrder()) {
                return valueOf(lowerOne(), values) < valueOf(upperOne(), values);
            }
            int value = valueOf(first, values);
            return value >= leastAlone(settings) && value <= greatestAlone(settings);
        }

        private static int valueOf(int length, int[] values) {
            return length >= 0 && length < values.length ? values[length] : 0;
        }
    }

    /** All that a change can change: the sentences and the settings. */
    private static final class State {
        private final Sentence[] sentences = new Sentence[SENTENCES];
        private int size = 0;
        private final int[] settings = {10, 100, 1000};

        private State() {
            for (int k = 0; k < SENTENCES; k++) {
                sentences[k] = new Sentence();
            }
        }

        private void copyFrom(State other) {
            for (int k = 0; k < other.size; k++) {
                sentences[k].copyFrom(other.sentences[k]);
            }
            size = other.size;
            for (int k = 0; k < SETTINGS; k++) {
                settings[k] = other.settings[k];
            }
        }

        private void append(Sentence sentence) {
            if (size < SENTENCES) {
                sentences[size].copyFrom(sentence);
                size++;
            }
        }

        private void remove(int sentence) {
            for (int k = sentence + 1; k < size; k++) {
                sentences[k - 1].copyFrom(sentences[k]);
            }
            size--;
        }

        private int weightOf(int set) {
            int sum = 0;
            for (int k = 0; k < size; k++) {
                if ((set >> k & 1) == 1) {
                    sum += sentences[k].weight;
                }
            }
            return sum;
        }

        private int doubtfulOnes() {
            int found = 0;
            for (int k = 0; k < size; k++) {
                if (sentences[k].isDoubtful()) {
                    found++;
                }
            }
            return found;
        }
    }

    /** The ranges of all lengths: opened, narrowed by sentences, then settled. */
    private static final class Bounds {
        // One more than there are sentences: could() adds that of the text.
        private static final int ORDERS = SENTENCES + 1;

        private final int[] least = new int[LENGTHS];
        private final int[] greatest = new int[LENGTHS];
        private final int[] lower = new int[ORDERS];
        private final int[] upper = new int[ORDERS];
        private int orders = 0;

        private void open() {
            for (int length = 0; length < LENGTHS; length++) {
                least[length] = 0;
                greatest[length] = GREATEST_LENGTH;
            }
            orders = 0;
        }

        private void narrow(int length, int low, int high) {
            if (isLength(length)) {
                least[length] = Math.max(least[length], low);
                greatest[length] = Math.min(greatest[length], high);
            }
        }

        private void add(Sentence sentence, int[] settings) {
            narrow(sentence.first, sentence.leastAlone(settings), sentence.greatestAlone(settings));
            if (!sentence.isOrder() || orders >= ORDERS) {
                return;
            }
            int low = sentence.lowerOne();
            int high = sentence.upperOne();
            if (isLength(low) && isLength(high)) {
                lower[orders] = low;
                upper[orders] = high;
                orders++;
            }
        }

        /** Returns whether some values are left; only then the bounds are the ranges. */
        private boolean settle() {
            // The longest chain without a circle has one order less than there are lengths, so
            // that what still moves after this many rounds is a circle.
            boolean moved = true;
            for (int round = 0; round < LENGTHS && moved; round++) {
                moved = spread();
            }
            if (moved) {
                return false;
            }
            for (int length = 0; length < LENGTHS; length++) {
                if (least[length] > greatest[length]) {
                    return false;
                }
            }
            return true;
        }

        private boolean spread() {
            boolean moved = false;
            for (int k = 0; k < orders; k++) {
                int low = lower[k];
                int high = upper[k];
                if (least[high] <= least[low]) {
                    least[high] = least[low] + 1;
                    moved = true;
                }
                if (greatest[low] >= greatest[high]) {
                    greatest[low] = greatest[high] - 1;
                    moved = true;
                }
            }
            return moved;
        }

        private int end(int length, int what) {
            return what == 0 ? least[length] : greatest[length];
        }

        private int singles() {
            int found = 0;
            for (int length = 0; length < LENGTHS; length++) {
                if (least[length] == greatest[length]) {
                    found++;
                }
            }
            return found;
        }
    }

    /** The text, and what the latest look at it has found. */
    private static final class Text {
        private static final int NO_FAULT = 0;
        private static final int WRONG_SIGN = 1;
        private static final int WRONG_VALUE = 2;
        private static final int WRONG_RANGE = 3;
        private static final int SAME_LENGTHS = 4;

        private static final char LETTER = '*';
        private static final char VALUE = '#';
        private static final int MOST_PARTS = 2;
        private static final int MOST_DIGITS = 6;
        private static final int NO_VALUE = -1;

        private final char[] signs = new char[SIGNS];
        private int length = 0;

        private int place = 0;
        private int faultPlace = 0;
        private int kind = 0;
        private final int[] letters = new int[MOST_PARTS];
        private final int[] letterPlaces = new int[MOST_PARTS];
        private int lettersRead = 0;
        private final int[] numbers = new int[MOST_PARTS];
        private final int[] numberPlaces = new int[MOST_PARTS];
        private final int[] units = new int[MOST_PARTS];
        private int numbersRead = 0;

        private boolean append(char sign) {
            if (length >= SIGNS) {
                return false;
            }
            signs[length] = sign;
            length++;
            return true;
        }

        /** Puts the sentence of a text without a fault into an object. */
        private void tell(Sentence sentence) {
            sentence.kind = kind;
            sentence.first = letters[0];
            sentence.second = letters[1];
            sentence.low = numbers[0];
            sentence.high = numbers[1];
            sentence.unit = units[0];
            sentence.weight = 1;
        }

        /** Reads the text; returns the reason of its fault. */
        private int examine() {
            int furthest = 0;
            for (int k = 0; k < KINDS; k++) {
                if (readAs(patternOf(k))) {
                    kind = k;
                    return examineParts();
                }
                // A character is wrong only if no kind of sentence could have it there.
                furthest = Math.max(furthest, place);
            }
            faultPlace = furthest;
            return WRONG_SIGN;
        }

        private int examineParts() {
            for (int k = 0; k < numbersRead && k < MOST_PARTS; k++) {
                if (numbers[k] == NO_VALUE) {
                    faultPlace = numberPlaces[k];
                    return WRONG_VALUE;
                }
            }
            if (numbersRead == 2 && numbers[1] < numbers[0]) {
                faultPlace = numberPlaces[1];
                return WRONG_RANGE;
            }
            if (lettersRead == 2 && letters[1] == letters[0]) {
                faultPlace = letterPlaces[1];
                return SAME_LENGTHS;
            }
            return NO_FAULT;
        }

        private static String patternOf(int kind) {
            switch (kind) {
                case AT_LEAST: return "* at least #";
                case AT_MOST: return "* at most #";
                case IS: return "* is #";
                case FROM_TO: return "* from # to #";
                case ABOUT: return "* about #";
                case BELOW: return "* below *";
                case ABOVE: return "* above *";
                case SMALL: return "* small";
                default: return "* large";
            }
        }

        /** Leaves the place of the first character that does not fit. */
        private boolean readAs(String pattern) {
            place = 0;
            lettersRead = 0;
            numbersRead = 0;
            for (int k = 0; k < pattern.length(); k++) {
                if (!readPart(pattern.charAt(k))) {
                    return false;
                }
            }
            return place == length;
        }

        private boolean readPart(char part) {
            if (part == LETTER) {
                return readLetter();
            }
            return part == VALUE ? readValue() : readSign(part);
        }

        private boolean readSign(char sign) {
            if (place >= length || place >= SIGNS || signs[place] != sign) {
                return false;
            }
            place++;
            return true;
        }

        /** Returns which of so many signs, from the first on, stands at the place; -1 if none. */
        private int offsetFrom(char first, int many) {
            if (place >= length || place >= SIGNS) {
                return -1;
            }
            int offset = signs[place] - first;
            return offset >= 0 && offset < many ? offset : -1;
        }

        private boolean readLetter() {
            int letter = offsetFrom('a', LENGTHS);
            if (letter < 0 || lettersRead >= MOST_PARTS) {
                return false;
            }
            letters[lettersRead] = letter;
            letterPlaces[lettersRead] = place;
            lettersRead++;
            place++;
            return true;
        }

        private boolean readValue() {
            if (numbersRead >= MOST_PARTS) {
                return false;
            }
            numberPlaces[numbersRead] = place;
            int whole = readDigits(MOST_DIGITS);
            if (whole < 0) {
                return false;
            }
            int tenth = readSign('.') ? readDigits(1) : 0;
            if (tenth < 0 || !readSign(' ')) {
                return false;
            }
            int unit = readUnit();
            if (unit < 0 || unit >= UNITS) {
                return false;
            }
            numbers[numbersRead] = inMillimeters(whole * 10 + tenth, unit);
            units[numbersRead] = unit;
            numbersRead++;
            return true;
        }

        /** Returns the number of one to so many digits; -1 if there is none. */
        private int readDigits(int most) {
            int digit = offsetFrom('0', 10);
            if (digit < 0) {
                return -1;
            }
            int number = 0;
            for (int k = 0; k < most && digit >= 0; k++) {
                number = number * 10 + digit;
                place++;
                digit = offsetFrom('0', 10);
            }
            return number;
        }

        private int readUnit() {
            if (readSign('c')) {
                return readSign('m') ? CENTIMETER : -1;
            }
            if (!readSign('m')) {
                return -1;
            }
            return readSign('m') ? MILLIMETER : METER;
        }

        private static int inMillimeters(int tenths, int unit) {
            // Six digits and a tenth, in m, are more than an int holds.
            long parts = (long) tenths * MILLIMETERS[unit];
            if (parts % 10 != 0 || parts > 10L * GREATEST_LENGTH) {
                return NO_VALUE;
            }
            return (int) (parts / 10);
        }
    }
}

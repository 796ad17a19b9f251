/**
 * Work cut small for many hands: a task's text cuts it into steps, items of the steps are answered by hands,
 * unlike answers are joined, and odds, coins and plans are told. The document's words stand in capitals.
 *
 * All rows are made once, in the constructors: no call makes an object.
 */
public final class HandsHall {
    public static final int NONE = -6, UNKNOWN = -1, OUTSIDE = -2, STATE = -3, FULL = -4, NO = -5;
    public static final long LOST = -1000000000000000000L;

    private static final int MOST_SIGNS = 60;
    private static final int MOST_STEPS = 8;
    private static final int MOST_THINGS = 10;
    private static final int MOST_ITEMS = 24;
    private static final int MOST_HANDS = 10;
    private static final int MOST_LABELS = 4;
    private static final int MOST_PARTS = 15;
    private static final int MOST_COPIED = 14;
    private static final int MOST_COMPARED = 40;
    private static final int MOST_SEED = 1000000;

    /** A SHARE that is whole, in millionths. */
    private static final int WHOLE = 1000000;

    /** What handsJoined is while no JOINING was done for this TASK: unlike any number of HANDS. */
    private static final int NEVER = -1;

    private final Text text;
    private final Steps steps;
    private final Items items;
    private final Hands hands;
    private final Rules rules;
    private final Joining latest;
    private final Joining trial;
    private final Odds odds;
    private final Pay pay;

    /** How many HANDS there were at the latest JOINING: later ones have no TABLES yet. */
    private int handsJoined;

    private int bestItem;
    private int bestHand;
    private int bestHelp;

    public HandsHall() {
        text = new Text();
        steps = new Steps();
        items = new Items();
        hands = new Hands();
        rules = new Rules();
        latest = new Joining(items, hands, rules);
        trial = new Joining(items, hands, rules);
        odds = new Odds();
        pay = new Pay();
        handsJoined = NEVER;
        bestItem = NONE;
        bestHand = NONE;
        bestHelp = NONE;
    }

    // ---- 1 tasks

    public int say(int sign) {
        if (sign < 33 || sign > 126) {
            return OUTSIDE;
        }
        return text.add(sign) ? text.count : FULL;
    }

    public int wipe() {
        int were = text.count;
        text.count = 0;
        return were;
    }

    public int fault() {
        return text.read();
    }

    public int task() {
        if (text.read() != NONE) {
            return NO;
        }
        steps.copy(text.draft);
        text.count = 0;
        items.count = 0;
        hands.count = 0;
        handsJoined = NEVER;
        return steps.count;
    }

    public int step(int i, int what) {
        if (!steps.has(i)) {
            return UNKNOWN;
        }
        switch (what) {
            case 0:
                return steps.name[i];
            case 1:
                return steps.labels[i];
            case 2:
                return steps.needs[i];
            case 3:
                return steps.number[i];
            default:
                return OUTSIDE;
        }
    }

    public int item(int step, int thing) {
        if (!steps.has(step)) {
            return UNKNOWN;
        }
        if (thing < 0 || thing >= MOST_THINGS) {
            return OUTSIDE;
        }
        if (items.count >= MOST_ITEMS) {
            return FULL;
        }
        if (items.find(step, thing) != NONE) {
            return NO;
        }
        int made = items.add(step, thing, steps.labels[step]);
        latest.startAlike(made);
        return made;
    }

    public int known(int item, int label) {
        if (!items.hasLabel(item, label)) {
            return UNKNOWN;
        }
        if (hands.anySaid(item) || !items.isFree(item)) {
            return STATE;
        }
        items.known[item] = label;
        latest.startGiven(item);
        return 1;
    }

    public int settle(int item, int label) {
        if (!items.hasLabel(item, label)) {
            return UNKNOWN;
        }
        if (items.known[item] != NONE) {
            return STATE;
        }
        int was = items.settled[item];
        items.settled[item] = label;
        latest.startGiven(item);
        return was;
    }

    public int show(int item, int parts) {
        if (!items.has(item)) {
            return UNKNOWN;
        }
        if (parts < 0 || parts > MOST_PARTS) {
            return OUTSIDE;
        }
        int were = items.parts[item];
        items.parts[item] = parts;
        return were;
    }

    public int ofItem(int item, int what) {
        if (!items.has(item)) {
            return UNKNOWN;
        }
        switch (what) {
            case 0:
                return items.step[item];
            case 1:
                return items.thing[item];
            case 2:
                return items.labels[item];
            case 3:
                return items.known[item];
            case 4:
                return items.settled[item];
            case 5:
                return isOpen(item) ? 1 : 0;
            case 6:
                return hands.countTo(item);
            case 7:
                return latest.greatest(item);
            case 8:
                return sureOf(item);
            case 9:
                return items.parts[item];
            default:
                return OUTSIDE;
        }
    }

    // ---- 2 hands

    public int hand() {
        if (hands.count >= MOST_HANDS) {
            return FULL;
        }
        return hands.add();
    }

    public int out(int hand, boolean is) {
        if (!hands.has(hand)) {
            return UNKNOWN;
        }
        boolean was = hands.out[hand];
        hands.out[hand] = is;
        return was ? 1 : 0;
    }

    public int answer(int hand, int item, int label) {
        if (!hands.has(hand) || !items.hasLabel(item, label)) {
            return UNKNOWN;
        }
        if (hands.out[hand] || !isOpen(item)) {
            return STATE;
        }
        if (hands.said[hand][item] != NONE) {
            return NO;
        }
        hands.said[hand][item] = label;
        return 1;
    }

    public int back(int hand, int item) {
        if (!hands.has(hand) || !items.has(item)) {
            return UNKNOWN;
        }
        int was = hands.said[hand][item];
        if (was == NONE) {
            return NO;
        }
        hands.said[hand][item] = NONE;
        return was;
    }

    public int said(int hand, int item) {
        if (!hands.has(hand) || !items.has(item)) {
            return UNKNOWN;
        }
        return hands.said[hand][item];
    }

    // ---- 3 joining

    public int set(int which, int v) {
        if (!Rules.allows(which, v)) {
            return OUTSIDE;
        }
        int was = rules.value[which];
        rules.value[which] = v;
        return was;
    }

    public int join() {
        handsJoined = hands.count;
        return latest.run();
    }

    public int share(int item, int label) {
        if (!items.hasLabel(item, label)) {
            return UNKNOWN;
        }
        return latest.shares[item][label];
    }

    public int table(int hand, int labels, int t, int s) {
        if (!hands.has(hand)) {
            return UNKNOWN;
        }
        if (labels < 2 || labels > MOST_LABELS || t < 0 || t >= labels || s < 0 || s >= labels) {
            return OUTSIDE;
        }
        return hand < handsJoined ? latest.numbers[hand][Joining.spot(labels, t, s)] : NONE;
    }

    public int next(int what) {
        if (what < 0 || what > 2) {
            return OUTSIDE;
        }
        if (handsJoined != hands.count) {
            return STATE;
        }
        seekHelp();
        if (what == 0) {
            return bestItem;
        }
        return what == 1 ? bestHand : bestHelp;
    }

    // ---- 4 odds

    public int right(int hand, int what) {
        if (!hands.has(hand)) {
            return UNKNOWN;
        }
        switch (what) {
            case 0:
                return answersOf(hand);
            case 1:
                return answersToKnown(hand);
            case 2:
                return rightOf(hand);
            case 3:
                return hands.version[hand];
            default:
                return OUTSIDE;
        }
    }

    public long guessing(int hand, int part) {
        if (!hands.has(hand)) {
            return LOST + UNKNOWN;
        }
        if (part < 0 || part > 1) {
            return LOST + OUTSIDE;
        }
        odds.begin();
        for (int item = 0; item < items.count; item++) {
            if (isToKnown(hand, item)) {
                odds.draw(items.labels[item]);
            }
        }
        odds.hitAtLeast(rightOf(hand));
        return odds.part(part);
    }

    public long copying(int a, int b, int part) {
        if (!hands.has(a) || !hands.has(b) || a == b) {
            return LOST + UNKNOWN;
        }
        if (part < 0 || part > 1) {
            return LOST + OUTSIDE;
        }
        odds.begin();
        int alike = 0;
        for (int item = 0; item < items.count && odds.draws < MOST_COPIED; item++) {
            if (hands.counts(a, item) && hands.counts(b, item)) {
                odds.draw(items.labels[item]);
                alike += hands.said[a][item] == hands.said[b][item] ? 1 : 0;
            }
        }
        odds.hitAtLeast(alike);
        return odds.part(part);
    }

    public int misread(int n) {
        if (n < 1 || n > MOST_HANDS) {
            return OUTSIDE;
        }
        int parts = 0;
        for (int item = 0; item < items.count; item++) {
            if (items.known[item] != NONE && isMisread(item, n)) {
                parts |= items.parts[item];
            }
        }
        return parts;
    }

    public int deal(int seed) {
        if (seed < 1 || seed > MOST_SEED) {
            return OUTSIDE;
        }
        long drawn = seed;
        int ones = 0;
        for (int hand = 0; hand < hands.count; hand++) {
            drawn = drawn * 16807L % 2147483647L;
            hands.version[hand] = (int) (drawn % 2);
            ones += hands.version[hand];
        }
        return ones;
    }

    public long better(int part) {
        if (part < 0 || part > 1) {
            return LOST + OUTSIDE;
        }
        int all = 0;
        int rightOfAll = 0;
        int ones = 0;
        int rightOfOnes = 0;
        for (int hand = 0; hand < hands.count; hand++) {
            for (int item = 0; item < items.count && all < MOST_COMPARED; item++) {
                if (isToKnown(hand, item)) {
                    int hit = isRight(hand, item) ? 1 : 0;
                    all++;
                    rightOfAll += hit;
                    ones += hands.version[hand];
                    rightOfOnes += hit * hands.version[hand];
                }
            }
        }
        odds.dealtAtLeast(all, rightOfAll, ones, rightOfOnes);
        return odds.part(part);
    }

    public int lean(int hand) {
        if (!hands.has(hand)) {
            return UNKNOWN;
        }
        boolean was = hands.out[hand];
        hands.out[hand] = true;
        trial.run();
        trial.keepEnds();
        hands.out[hand] = false;
        trial.run();
        hands.out[hand] = was;
        return trial.endsUnlikeKept();
    }

    // ---- 5 coins

    public int coins(int hand) {
        if (!hands.has(hand)) {
            return UNKNOWN;
        }
        int hits = rightOf(hand);
        int sum = rules.value[Rules.EACH] * answersOf(hand)
            + rules.value[Rules.BONUS] * hits
            - rules.value[Rules.FINE] * (answersToKnown(hand) - hits);
        return sum < 0 ? 0 : sum;
    }

    public int pays(int saying, int right, int wrong) {
        if (saying < 0 || saying > Pay.SURE || !Pay.allows(right) || !Pay.allows(wrong)) {
            return OUTSIDE;
        }
        pay.right[saying] = right;
        pay.wrong[saying] = wrong;
        return 1;
    }

    public int belief(int what) {
        if (what < 0 || what > 2) {
            return OUTSIDE;
        }
        int untrue = pay.firstUntrue();
        if (untrue == NONE || what == 0) {
            return untrue;
        }
        int best = pay.bestSaying(untrue);
        return what == 1 ? best : pay.brings(untrue, best) - pay.brings(untrue, untrue);
    }

    public int plan(int q, int s) {
        if (q < 0 || q > 100 || s < 0 || s > 100) {
            return OUTSIDE;
        }
        for (int n = 1; n <= 9; n += 2) {
            // Both sides by 100^(n - 1), not by 100^n: the latter times s would not fit.
            if (Odds.greaterPart(q, n) >= s * Odds.power(100, n - 1)) {
                return n;
            }
        }
        return NONE;
    }

    public int told(int what) {
        switch (what) {
            case 0:
                return text.count;
            case 1:
                return steps.count;
            case 2:
                return items.count;
            case 3:
                return hands.count;
            case 4:
                return allAnswers();
            case 5:
                return openItems();
            default:
                return OUTSIDE;
        }
    }

    // ---- what several calls ask

    private int sureOf(int item) {
        return latest.shares[item][latest.greatest(item)] / 1000;
    }

    private boolean isOpen(int item) {
        int own = items.step[item];
        for (int step = 0; step < steps.count; step++) {
            if ((steps.needs[own] >> step & 1) == 1) {
                int needed = items.find(step, items.thing[item]);
                if (needed == NONE || sureOf(needed) < steps.number[own]) {
                    return false;
                }
            }
        }
        return true;
    }

    private int openItems() {
        int bits = 0;
        for (int item = 0; item < items.count; item++) {
            if (isOpen(item)) {
                bits |= 1 << item;
            }
        }
        return bits;
    }

    private void seekHelp() {
        bestItem = NONE;
        bestHand = NONE;
        bestHelp = NONE;
        for (int item = 0; item < items.count; item++) {
            if (items.isFree(item) && isOpen(item)) {
                seekHandFor(item);
            }
        }
    }

    private void seekHandFor(int item) {
        for (int hand = 0; hand < hands.count; hand++) {
            if (!hands.out[hand] && hands.said[hand][item] == NONE) {
                int help = latest.helpOf(item, hand);
                if (help > 0 && help > bestHelp) {
                    bestItem = item;
                    bestHand = hand;
                    bestHelp = help;
                }
            }
        }
    }

    private boolean isToKnown(int hand, int item) {
        return hands.counts(hand, item) && items.known[item] != NONE;
    }

    private boolean isRight(int hand, int item) {
        return isToKnown(hand, item) && hands.said[hand][item] == items.known[item];
    }

    private int answersOf(int hand) {
        int sum = 0;
        for (int item = 0; item < items.count; item++) {
            sum += hands.counts(hand, item) ? 1 : 0;
        }
        return sum;
    }

    private int answersToKnown(int hand) {
        int sum = 0;
        for (int item = 0; item < items.count; item++) {
            sum += isToKnown(hand, item) ? 1 : 0;
        }
        return sum;
    }

    private int rightOf(int hand) {
        int sum = 0;
        for (int item = 0; item < items.count; item++) {
            sum += isRight(hand, item) ? 1 : 0;
        }
        return sum;
    }

    private int allAnswers() {
        int sum = 0;
        for (int hand = 0; hand < hands.count; hand++) {
            sum += answersOf(hand);
        }
        return sum;
    }

    private boolean isMisread(int item, int n) {
        for (int label = 0; label < items.labels[item]; label++) {
            if (label != items.known[item] && hands.countWith(item, label) >= n) {
                return true;
            }
        }
        return false;
    }

    /** The STEPS of a TASK. */
    private static final class Steps {
        int count;
        final int[] name;
        final int[] labels;
        final int[] needs;
        final int[] number;

        Steps() {
            name = new int[MOST_STEPS];
            labels = new int[MOST_STEPS];
            needs = new int[MOST_STEPS];
            number = new int[MOST_STEPS];
        }

        boolean has(int i) {
            return i >= 0 && i < count;
        }

        /** The STEP of a NAME among the first so many. */
        int named(int letter, int among) {
            for (int i = 0; i < among; i++) {
                if (name[i] == letter) {
                    return i;
                }
            }
            return NONE;
        }

        void add(int letter) {
            name[count] = letter;
            labels[count] = 2;
            needs[count] = 0;
            number[count] = 0;
            count++;
        }

        void copy(Steps other) {
            count = other.count;
            System.arraycopy(other.name, 0, name, 0, MOST_STEPS);
            System.arraycopy(other.labels, 0, labels, 0, MOST_STEPS);
            System.arraycopy(other.needs, 0, needs, 0, MOST_STEPS);
            System.arraycopy(other.number, 0, number, 0, MOST_STEPS);
        }
    }

    /** The signs, and how they read as a TASK: sign by sign, each stage telling what may stand next. */
    private static final class Text {
        private static final int AT_NAME = 0;
        private static final int AT_COLON = 1;
        private static final int AT_KIND = 2;
        private static final int AT_LABELS = 3;
        private static final int BEHIND_KIND = 4;
        private static final int AT_FIRST_NEED = 5;
        private static final int AT_MORE_NEEDS = 6;
        private static final int AT_NUMBER = 7;
        private static final int IN_NUMBER = 8;

        int count;
        final Steps draft;
        private final int[] signs;
        private int stage;
        private int current;
        private int latestNeed;
        private int digits;

        Text() {
            draft = new Steps();
            signs = new int[MOST_SIGNS];
        }

        boolean add(int sign) {
            if (count >= MOST_SIGNS) {
                return false;
            }
            signs[count] = sign;
            count++;
            return true;
        }

        /** THE FAULT, or NONE: then the draft holds the STEPS. */
        int read() {
            draft.count = 0;
            stage = AT_NAME;
            for (int i = 0; i < count; i++) {
                if (!takes(signs[i])) {
                    return i;
                }
            }
            return stage == IN_NUMBER ? NONE : count;
        }

        private boolean takes(int sign) {
            switch (stage) {
                case AT_NAME:
                    return takesName(sign - 'a');
                case AT_COLON:
                    return goesOn(sign == ':', AT_KIND);
                case AT_KIND:
                    return sign == 'C' ? goesOn(true, AT_LABELS) : goesOn(sign == 'K' || sign == 'O', BEHIND_KIND);
                case AT_LABELS:
                    return takesLabels(sign - '0');
                case BEHIND_KIND:
                    return sign == '<' ? goesOn(current > 0, AT_FIRST_NEED) : goesOn(sign == '!', AT_NUMBER);
                case AT_FIRST_NEED:
                    return takesNeed(sign - 'a');
                case AT_MORE_NEEDS:
                    return sign == '!' ? goesOn(true, AT_NUMBER) : takesNeed(sign - 'a');
                case AT_NUMBER:
                    return takesDigit(sign - '0');
                default:
                    return sign == ';' ? goesOn(draft.count < MOST_STEPS, AT_NAME) : takesDigit(sign - '0');
            }
        }

        private boolean goesOn(boolean fits, int then) {
            if (fits) {
                stage = then;
            }
            return fits;
        }

        private boolean takesName(int letter) {
            if (letter < 0 || letter >= MOST_STEPS || draft.count >= MOST_STEPS
                || draft.named(letter, draft.count) != NONE) {
                return false;
            }
            current = draft.count;
            draft.add(letter);
            latestNeed = -1;
            digits = 0;
            return goesOn(true, AT_COLON);
        }

        private boolean takesLabels(int labels) {
            if (labels < 2 || labels > MOST_LABELS) {
                return false;
            }
            draft.labels[current] = labels;
            return goesOn(true, BEHIND_KIND);
        }

        private boolean takesNeed(int letter) {
            int needed = draft.named(letter, current);
            if (needed == NONE || letter <= latestNeed) {
                return false;
            }
            draft.needs[current] |= 1 << needed;
            latestNeed = letter;
            return goesOn(true, AT_MORE_NEEDS);
        }

        private boolean takesDigit(int digit) {
            if (digit < 0 || digit > 9 || digits >= 3) {
                return false;
            }
            draft.number[current] = draft.number[current] * 10 + digit;
            digits++;
            return goesOn(true, IN_NUMBER);
        }
    }

    /** The ITEMS. */
    private static final class Items {
        int count;
        final int[] step;
        final int[] thing;
        final int[] labels;
        final int[] known;
        final int[] settled;
        final int[] parts;

        Items() {
            step = new int[MOST_ITEMS];
            thing = new int[MOST_ITEMS];
            labels = new int[MOST_ITEMS];
            known = new int[MOST_ITEMS];
            settled = new int[MOST_ITEMS];
            parts = new int[MOST_ITEMS];
        }

        boolean has(int item) {
            return item >= 0 && item < count;
        }

        boolean hasLabel(int item, int label) {
            return has(item) && label >= 0 && label < labels[item];
        }

        int find(int ofStep, int ofThing) {
            for (int item = 0; item < count; item++) {
                if (step[item] == ofStep && thing[item] == ofThing) {
                    return item;
                }
            }
            return NONE;
        }

        int add(int ofStep, int ofThing, int ofLabels) {
            int made = count;
            step[made] = ofStep;
            thing[made] = ofThing;
            labels[made] = ofLabels;
            known[made] = NONE;
            settled[made] = NONE;
            parts[made] = 0;
            count++;
            return made;
        }

        /** Whether its END is for the answers to tell: neither KNOWN nor SETTLED. */
        boolean isFree(int item) {
            return known[item] == NONE && settled[item] == NONE;
        }

        /** The LABEL of one that is not free. */
        int given(int item) {
            return known[item] != NONE ? known[item] : settled[item];
        }
    }

    /** The HANDS and what they answered. */
    private static final class Hands {
        int count;
        final boolean[] out;
        final int[] version;
        final int[][] said;

        Hands() {
            out = new boolean[MOST_HANDS];
            version = new int[MOST_HANDS];
            said = new int[MOST_HANDS][MOST_ITEMS];
        }

        boolean has(int hand) {
            return hand >= 0 && hand < count;
        }

        int add() {
            int made = count;
            out[made] = false;
            version[made] = 0;
            for (int item = 0; item < MOST_ITEMS; item++) {
                said[made][item] = NONE;
            }
            count++;
            return made;
        }

        /** Whether there is an answer that COUNTS. */
        boolean counts(int hand, int item) {
            return !out[hand] && said[hand][item] != NONE;
        }

        /** Whether there is an answer, of a HAND that is PUT OUT too. */
        boolean anySaid(int item) {
            for (int hand = 0; hand < count; hand++) {
                if (said[hand][item] != NONE) {
                    return true;
                }
            }
            return false;
        }

        int countTo(int item) {
            int sum = 0;
            for (int hand = 0; hand < count; hand++) {
                sum += counts(hand, item) ? 1 : 0;
            }
            return sum;
        }

        int countWith(int item, int label) {
            int sum = 0;
            for (int hand = 0; hand < count; hand++) {
                sum += counts(hand, item) && said[hand][item] == label ? 1 : 0;
            }
            return sum;
        }
    }

    /** The numbers that may be set. */
    private static final class Rules {
        static final int SMOOTH = 0;
        static final int NEAR = 1;
        static final int MOST = 2;
        static final int EACH = 3;
        static final int BONUS = 4;
        static final int FINE = 5;

        private static final int[] FIRST = {10, 100, 30, 2, 3, 1};
        private static final int[] LOWEST = {1, 0, 1, 0, 0, 0};
        private static final int[] HIGHEST = {100, 100000, 60, 100, 100, 100};

        final int[] value;

        Rules() {
            value = new int[FIRST.length];
            System.arraycopy(FIRST, 0, value, 0, FIRST.length);
        }

        static boolean allows(int which, int v) {
            return which >= 0 && which < FIRST.length && v >= LOWEST[which] && v <= HIGHEST[which];
        }
    }

    /** A JOINING: SHARES of all ITEMS and TABLES of all HANDS, kept till it is run again. */
    private static final class Joining {
        private static final int LABELS_ROW = MOST_LABELS * MOST_LABELS;
        private static final int TABLE_ROW = 3 * LABELS_ROW;

        final int[][] shares;
        final int[][] numbers;
        private final Items items;
        private final Hands hands;
        private final Rules rules;
        private final long[] sums;
        private final long[] fresh;
        private final long[] weighed;
        private final int[] keptEnds;

        Joining(Items items, Hands hands, Rules rules) {
            this.items = items;
            this.hands = hands;
            this.rules = rules;
            shares = new int[MOST_ITEMS][MOST_LABELS];
            numbers = new int[MOST_HANDS][TABLE_ROW];
            sums = new long[TABLE_ROW];
            fresh = new long[MOST_LABELS];
            weighed = new long[MOST_LABELS];
            keptEnds = new int[MOST_ITEMS];
        }

        /** Where the number of t, s stands in a HAND's row, for 2, 3 or 4 LABELS. */
        static int spot(int labels, int t, int s) {
            return (labels - 2) * LABELS_ROW + t * MOST_LABELS + s;
        }

        /** TURNS that were done, less 100 if it does not REST. */
        int run() {
            int most = rules.value[Rules.MOST];
            for (int item = 0; item < items.count; item++) {
                startShares(item);
            }
            for (int turn = 1; turn <= most; turn++) {
                for (int hand = 0; hand < hands.count; hand++) {
                    sumSaid(hand);
                    fillTables(hand);
                }
                if (renewAll() <= rules.value[Rules.NEAR]) {
                    return turn;
                }
            }
            return most - 100;
        }

        /** The SHARE of each LABEL where nothing tells them apart. */
        private static int alike(int labels) {
            return labels > 0 ? WHOLE / labels : 0;
        }

        /** SHARES of an ITEM without answers that is neither KNOWN nor SETTLED. */
        void startAlike(int item) {
            int labels = items.labels[item];
            for (int t = 0; t < labels; t++) {
                shares[item][t] = alike(labels);
            }
        }

        /** SHARES of one that is KNOWN or SETTLED: it has them at once, ahead of the next JOINING. */
        void startGiven(int item) {
            int given = items.given(item);
            for (int t = 0; t < items.labels[item]; t++) {
                shares[item][t] = t == given ? WHOLE : 0;
            }
        }

        private void startByAnswers(int item) {
            int answers = hands.countTo(item);
            if (answers <= 0) {
                startAlike(item);
                return;
            }
            for (int t = 0; t < items.labels[item]; t++) {
                shares[item][t] = WHOLE * hands.countWith(item, t) / answers;
            }
        }

        private void startShares(int item) {
            if (items.isFree(item)) {
                startByAnswers(item);
            } else {
                startGiven(item);
            }
        }

        private void sumSaid(int hand) {
            for (int i = 0; i < TABLE_ROW; i++) {
                sums[i] = rules.value[Rules.SMOOTH] * 10000L;
            }
            for (int item = 0; item < items.count; item++) {
                if (hands.counts(hand, item)) {
                    int labels = items.labels[item];
                    int s = hands.said[hand][item];
                    for (int t = 0; t < labels; t++) {
                        sums[spot(labels, t, s)] += shares[item][t];
                    }
                }
            }
        }

        private void fillTables(int hand) {
            for (int labels = 2; labels <= MOST_LABELS; labels++) {
                for (int t = 0; t < labels; t++) {
                    fillLine(hand, labels, t);
                }
            }
        }

        private void fillLine(int hand, int labels, int t) {
            long whole = 0;
            for (int s = 0; s < labels; s++) {
                whole += sums[spot(labels, t, s)];
            }
            if (whole <= 0) {
                return;
            }
            for (int s = 0; s < labels; s++) {
                numbers[hand][spot(labels, t, s)] = (int) (1000 * sums[spot(labels, t, s)] / whole);
            }
        }

        /** New SHARES of all ITEMS whose END the answers tell: the greatest change. */
        private int renewAll() {
            int change = 0;
            for (int item = 0; item < items.count; item++) {
                if (items.isFree(item) && hands.countTo(item) > 0) {
                    weighAnswers(item);
                    change = Math.max(change, takeFresh(item));
                }
            }
            return change;
        }

        private void weighAnswers(int item) {
            int labels = items.labels[item];
            for (int t = 0; t < labels; t++) {
                fresh[t] = alike(labels);
            }
            for (int hand = 0; hand < hands.count; hand++) {
                if (hands.counts(hand, item)) {
                    weigh(hand, labels, hands.said[hand][item]);
                }
            }
        }

        private void weigh(int hand, int labels, int s) {
            long whole = 0;
            for (int t = 0; t < labels; t++) {
                weighed[t] = fresh[t] * numbers[hand][spot(labels, t, s)];
                whole += weighed[t];
            }
            if (whole <= 0) {
                return;
            }
            for (int t = 0; t < labels; t++) {
                fresh[t] = weighed[t] * WHOLE / whole;
            }
        }

        private int takeFresh(int item) {
            int change = 0;
            for (int t = 0; t < items.labels[item]; t++) {
                int now = (int) fresh[t];
                change = Math.max(change, Math.abs(now - shares[item][t]));
                shares[item][t] = now;
            }
            return change;
        }

        /** The LABEL with the greatest SHARE, the first such. */
        int greatest(int item) {
            int best = 0;
            for (int t = 1; t < items.labels[item]; t++) {
                if (shares[item][t] > shares[item][best]) {
                    best = t;
                }
            }
            return best;
        }

        int helpOf(int item, int hand) {
            int labels = items.labels[item];
            long sum = 0;
            for (int s = 0; s < labels; s++) {
                long most = 0;
                for (int t = 0; t < labels; t++) {
                    most = Math.max(most, (long) shares[item][t] * numbers[hand][spot(labels, t, s)]);
                }
                sum += most;
            }
            return (int) (sum / 1000) - shares[item][greatest(item)];
        }

        void keepEnds() {
            for (int item = 0; item < items.count; item++) {
                keptEnds[item] = greatest(item);
            }
        }

        int endsUnlikeKept() {
            int bits = 0;
            for (int item = 0; item < items.count; item++) {
                if (keptEnds[item] != greatest(item)) {
                    bits |= 1 << item;
                }
            }
            return bits;
        }
    }

    /** Exact odds: ways are counted, so that nothing is lost before the fraction is made. */
    private static final class Odds {
        /** Euclid's turns for two longs stay under a hundred. */
        private static final int MOST_TURNS = 200;

        int draws;
        private long upper;
        private long lower;
        private final long[] ways;

        Odds() {
            lower = 1;
            ways = new long[MOST_ITEMS + 1];
        }

        long part(int which) {
            return which == 0 ? upper : lower;
        }

        void begin() {
            draws = 0;
            ways[0] = 1;
        }

        /** One LABEL more drawn by lot: one of so many hits. */
        void draw(int labels) {
            if (draws >= MOST_ITEMS) {
                return;
            }
            draws++;
            ways[draws] = ways[draws - 1];
            for (int hits = draws - 1; hits > 0; hits--) {
                ways[hits] = ways[hits] * (labels - 1) + ways[hits - 1];
            }
            ways[0] *= labels - 1;
        }

        void hitAtLeast(int least) {
            long enough = 0;
            long all = 0;
            for (int hits = 0; hits <= draws; hits++) {
                all += ways[hits];
                enough += hits >= least ? ways[hits] : 0;
            }
            reduce(enough, all);
        }

        /** Of so many in all, so many are RIGHT by chance: at least so many of the ones. */
        void dealtAtLeast(int all, int rights, int ones, int least) {
            long enough = 0;
            for (int k = least; k <= ones; k++) {
                enough += choose(ones, k) * choose(all - ones, rights - k);
            }
            reduce(enough, choose(all, rights));
        }

        private void reduce(long enough, long all) {
            long a = all;
            long b = enough;
            for (int turn = 0; turn < MOST_TURNS && b != 0; turn++) {
                long rest = a % b;
                a = b;
                b = rest;
            }
            if (a > 0) {
                upper = enough / a;
                lower = all / a;
            }
        }

        private static long choose(int n, int k) {
            if (k < 0 || k > n) {
                return 0;
            }
            long sum = 1;
            for (int i = 1; i <= k; i++) {
                sum = sum * (n - k + i) / i;
            }
            return sum;
        }

        static long power(int base, int times) {
            long product = 1;
            for (int i = 0; i < times; i++) {
                product *= base;
            }
            return product;
        }

        /** The odds, by 100^n, that more than half of n answers are right, each in q hundredths. */
        static long greaterPart(int q, int n) {
            long sum = 0;
            for (int k = n / 2 + 1; k <= n; k++) {
                sum += choose(n, k) * power(q, k) * power(100 - q, n - k);
            }
            return sum;
        }
    }

    /** What SAYINGS are paid. */
    private static final class Pay {
        static final int SURE = 20;
        private static final int LIMIT = 1000;

        final int[] right;
        final int[] wrong;

        Pay() {
            right = new int[SURE + 1];
            wrong = new int[SURE + 1];
        }

        static boolean allows(int paid) {
            return paid >= -LIMIT && paid <= LIMIT;
        }

        int brings(int held, int saying) {
            return held * right[saying] + (SURE - held) * wrong[saying];
        }

        int bestSaying(int held) {
            int best = 0;
            for (int saying = 1; saying <= SURE; saying++) {
                if (brings(held, saying) > brings(held, best)) {
                    best = saying;
                }
            }
            return best;
        }

        /** The first BELIEF for which another SAYING brings more, or NONE. */
        int firstUntrue() {
            for (int held = 0; held <= SURE; held++) {
                if (brings(held, bestSaying(held)) > brings(held, held)) {
                    return held;
                }
            }
            return NONE;
        }
    }
}

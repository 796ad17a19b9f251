/** The document's promises 1 to 33: each is read with its signature, which is the source's, and asked for. */
final class DocumentPromises {
    private static final int NONE = -6, UNKNOWN = -1, OUTSIDE = -2, STATE = -3, FULL = -4, NO = -5;
    private static final long LOST = -1000000000000000000L;

    private final Reader page;
    private final String source;
    private int number = 0;

    DocumentPromises(Reader page, String source) {
        this.page = page;
        this.source = source;
    }

    void all() {
        tasks();
        items();
        ofItem();
        hands();
        joining();
        next();
        odds();
        compared();
        coins();
        plan();
    }

    private void opens(String name, String signature) {
        number++;
        page.reads("## Promise " + number + ": " + name + " `" + signature + "`:");
        page.is("the source has it", source.contains("    public " + signature + " {\n"));
    }

    private void tasks() {
        opens("A new object", "HandsHall()");
        page.reads("No STEPS, ITEMS, HANDS; numbers as at first.");
        HandsHall x = new HandsHall();
        int[] first = {10, 100, 30, 2, 3, 1};
        for (int what = 0; what <= 5; what++) {
            page.is("told(" + what + ")", x.told(what), 0);
            page.is("set(" + what + ", 1)", x.set(what, 1), first[what]);
        }
        opens("say", "int say(int sign)");
        page.reads("A sign more: how many.");
        page.is("say('a')", x.say('a'), 1);
        page.is("say(':')", x.say(':'), 2);
        page.reads("OUTSIDE; FULL.");
        page.is("say(32)", x.say(32), OUTSIDE);
        page.is("say(127)", x.say(127), OUTSIDE);
        page.is("say('a'), 60 are there", Scene.FULL.make().say('a'), FULL);
        opens("wipe", "int wipe()");
        page.reads("Signs go: how many there were.");
        page.is("wipe()", x.wipe(), 2);
        page.is("told(0)", x.told(0), 0);
        opens("fault", "int fault()");
        page.reads("THE FAULT; NONE.");
        page.is("fault() of nothing", x.fault(), 0);
        Due.say(x, "a:K!0;b:C3<a!77");
        page.is("fault() of a text", x.fault(), NONE);
        opens("task", "int task()");
        page.reads("A TASK of the signs (they are empty then): STEPS.");
        page.is("task()", x.task(), 2);
        page.is("told(0)", x.told(0), 0);
        page.reads("NO: there is a FAULT.");
        page.is("task() of nothing", x.task(), NO);
        page.is("told(1)", x.told(1), 2);
        opens("step", "int step(int i, int what)");
        page.reads("Of a STEP: 0 its NAME (0 for a), 1 LABELS, 2 STEPS it names, as bits of numbers, 3 its number.");
        int[] second = {1, 3, 1, 77};
        for (int what = 0; what < 4; what++) {
            page.is("step(1, " + what + ")", x.step(1, what), second[what]);
        }
        page.reads("UNKNOWN; OUTSIDE.");
        page.is("step(2, 0)", x.step(2, 0), UNKNOWN);
        page.is("step(1, 4)", x.step(1, 4), OUTSIDE);
        page.is("step(1, -1)", x.step(1, -1), OUTSIDE);
    }

    private void items() {
        HandsHall x = Due.of("a:K!0;b:C3<a!77");
        opens("item", "int item(int step, int thing)");
        page.reads("An ITEM: its number.");
        page.is("item(0, 4)", x.item(0, 4), 0);
        page.is("item(1, 4)", x.item(1, 4), 1);
        page.reads("UNKNOWN: the STEP; OUTSIDE; FULL; NO: there is one of that STEP and THING.");
        page.is("item(2, 0)", x.item(2, 0), UNKNOWN);
        page.is("item(0, 10)", x.item(0, 10), OUTSIDE);
        page.is("item(3, 0), 24 are there", Scene.FULL.make().item(3, 0), FULL);
        page.is("item(1, 4)", x.item(1, 4), NO);
        opens("known", "int known(int item, int label)");
        page.reads("An ITEM is KNOWN: 1.");
        page.is("known(0, 1)", x.known(0, 1), 1);
        page.reads("UNKNOWN; STATE: it has an answer, is KNOWN or SETTLED.");
        x.hand();
        x.answer(0, 1, 2);
        x.item(0, 5);
        x.settle(2, 0);
        page.is("known(3, 0)", x.known(3, 0), UNKNOWN);
        page.is("known(1, 3)", x.known(1, 3), UNKNOWN);
        page.is("known(1, 2), answered", x.known(1, 2), STATE);
        page.is("known(0, 1), KNOWN", x.known(0, 1), STATE);
        page.is("known(2, 0), SETTLED", x.known(2, 0), STATE);
        opens("settle", "int settle(int item, int label)");
        page.reads("An ITEM is SETTLED: which LABEL it was SETTLED to ahead (NONE).");
        page.is("settle(1, 0)", x.settle(1, 0), NONE);
        page.is("settle(1, 2)", x.settle(1, 2), 0);
        page.is("settle(1, 2)", x.settle(1, 2), 2);
        page.reads("UNKNOWN; STATE: it is KNOWN.");
        page.is("settle(3, 0)", x.settle(3, 0), UNKNOWN);
        page.is("settle(2, 2)", x.settle(2, 2), UNKNOWN);
        page.is("settle(0, 1)", x.settle(0, 1), STATE);
        opens("show", "int show(int item, int parts)");
        page.reads("PARTS of an ITEM: which they were.");
        page.is("show(2, 15)", x.show(2, 15), 0);
        page.is("show(2, 6)", x.show(2, 6), 15);
        page.reads("UNKNOWN; OUTSIDE: 0 to 15.");
        page.is("show(3, 0)", x.show(3, 0), UNKNOWN);
        page.is("show(2, 16)", x.show(2, 16), OUTSIDE);
        page.is("show(2, -1)", x.show(2, -1), OUTSIDE);
    }

    private void ofItem() {
        opens("ofItem", "int ofItem(int item, int what)");
        page.reads("Of an ITEM: 0 STEP, 1 THING, 2 LABELS, 3 KNOWN LABEL (NONE), 4 SETTLED (NONE), 5 whether OPEN "
            + "(1, 0), 6 answers that COUNT, 7 END, 8 SURE, 9 PARTS.");
        HandsHall x = Due.of("a:K!0;b:C3<a!501");
        x.item(0, 4);
        x.item(0, 7);
        x.item(1, 4);
        x.item(1, 7);
        x.known(0, 1);
        x.settle(3, 2);
        x.show(3, 11);
        Due.hands(x, 2);
        x.answer(0, 0, 1);
        x.answer(1, 0, 0);
        int[][] want = {{0, 4, 2, 1, NONE, 1, 2, 1, 1000, 0}, {0, 7, 2, NONE, NONE, 1, 0, 0, 500, 0},
            {1, 4, 3, NONE, NONE, 1, 0, 0, 333, 0}, {1, 7, 3, NONE, 2, 0, 0, 2, 1000, 11}};
        for (int item = 0; item < 4; item++) {
            for (int what = 0; what < 10; what++) {
                page.is("ofItem(" + item + ", " + what + ")", x.ofItem(item, what), want[item][what]);
            }
        }
        page.reads("UNKNOWN; OUTSIDE.");
        page.is("ofItem(4, 0)", x.ofItem(4, 0), UNKNOWN);
        page.is("ofItem(0, 10)", x.ofItem(0, 10), OUTSIDE);
        page.is("ofItem(0, -1)", x.ofItem(0, -1), OUTSIDE);
    }

    private void hands() {
        HandsHall x = Due.of("a:C4!0;b:K<a!999");
        x.item(0, 0);
        x.item(1, 0);
        opens("hand", "int hand()");
        page.reads("A HAND: its number.");
        page.is("hand()", x.hand(), 0);
        page.is("hand()", x.hand(), 1);
        page.reads("FULL.");
        page.is("hand(), ten are there", Scene.FULL.make().hand(), FULL);
        opens("out", "int out(int hand, boolean is)");
        page.reads("A HAND is PUT OUT, or comes back: whether it was out (1, 0).");
        page.is("out(1, true)", x.out(1, true), 0);
        page.is("out(1, true)", x.out(1, true), 1);
        page.reads("UNKNOWN.");
        page.is("out(2, true)", x.out(2, true), UNKNOWN);
        opens("answer", "int answer(int hand, int item, int label)");
        page.reads("An answer: 1.");
        page.is("answer(0, 0, 3)", x.answer(0, 0, 3), 1);
        page.reads("UNKNOWN; STATE: the ITEM is not OPEN, or the HAND is PUT OUT; NO: it answered.");
        page.is("answer(2, 0, 0)", x.answer(2, 0, 0), UNKNOWN);
        page.is("answer(0, 2, 0)", x.answer(0, 2, 0), UNKNOWN);
        page.is("answer(0, 0, 4)", x.answer(0, 0, 4), UNKNOWN);
        page.is("answer(0, 1, 0), not OPEN", x.answer(0, 1, 0), STATE);
        page.is("answer(1, 0, 0), PUT OUT", x.answer(1, 0, 0), STATE);
        page.is("answer(0, 0, 3)", x.answer(0, 0, 3), NO);
        opens("back", "int back(int hand, int item)");
        page.reads("An answer is taken back: which it was.");
        page.is("back(0, 0)", x.back(0, 0), 3);
        page.reads("UNKNOWN; NO: there is none.");
        page.is("back(2, 0)", x.back(2, 0), UNKNOWN);
        page.is("back(0, 2)", x.back(0, 2), UNKNOWN);
        page.is("back(0, 0)", x.back(0, 0), NO);
        opens("said", "int said(int hand, int item)");
        page.reads("What a HAND answered to an ITEM; NONE.");
        page.is("said(0, 0)", x.said(0, 0), NONE);
        x.answer(0, 0, 2);
        page.is("said(0, 0)", x.said(0, 0), 2);
        page.reads("UNKNOWN.");
        page.is("said(2, 0)", x.said(2, 0), UNKNOWN);
        page.is("said(0, 2)", x.said(0, 2), UNKNOWN);
    }

    private void joining() {
        HandsHall x = Due.of("a:K!0", 1, 1);
        opens("set", "int set(int which, int v)");
        page.reads("0 SMOOTH, 1 NEAR, 2 MOST, 3 EACH, 4 BONUS, 5 FINE: which it was.");
        int[] other = {20, 300, 40, 5, 6, 7};
        for (int which = 0; which < 6; which++) {
            int was = x.set(which, other[which]);
            page.is("set(" + which + ", back)", x.set(which, was), other[which]);
        }
        page.reads("OUTSIDE.");
        page.is("set(6, 1)", x.set(6, 1), OUTSIDE);
        page.is("set(-1, 1)", x.set(-1, 1), OUTSIDE);
        page.is("set(0, 0)", x.set(0, 0), OUTSIDE);
        page.is("set(1, 100001)", x.set(1, 100001), OUTSIDE);
        page.is("set(2, 61)", x.set(2, 61), OUTSIDE);
        opens("join", "int join()");
        page.reads("JOINING: TURNS that were done; less 100, if it does not REST.");
        x.answer(0, 0, 1);
        page.is("join()", x.join(), 6);
        x.set(2, 1);
        page.is("join() of one TURN", x.join(), -99);
        opens("share", "int share(int item, int label)");
        page.reads("A SHARE by the latest JOINING.");
        page.is("share(0, 0)", x.share(0, 0), 353107);
        page.is("share(0, 1)", x.share(0, 1), 646892);
        x.back(0, 0);
        page.is("share(0, 1)", x.share(0, 1), 646892);
        page.reads("UNKNOWN.");
        page.is("share(1, 0)", x.share(1, 0), UNKNOWN);
        page.is("share(0, 2)", x.share(0, 2), UNKNOWN);
        opens("table", "int table(int hand, int labels, int t, int s)");
        page.reads("A TABLE's number by the latest JOINING (NONE: there was none since the HAND came).");
        page.is("table(0, 2, 1, 1)", x.table(0, 2, 1, 1), 916);
        x.hand();
        page.is("table(1, 2, 1, 1)", x.table(1, 2, 1, 1), NONE);
        page.reads("UNKNOWN; OUTSIDE: LABELS 2 to 4, t, s.");
        page.is("table(2, 2, 0, 0)", x.table(2, 2, 0, 0), UNKNOWN);
        page.is("table(0, 1, 0, 0)", x.table(0, 1, 0, 0), OUTSIDE);
        page.is("table(0, 5, 0, 0)", x.table(0, 5, 0, 0), OUTSIDE);
        page.is("table(0, 2, 2, 0)", x.table(0, 2, 2, 0), OUTSIDE);
        page.is("table(0, 2, 0, 2)", x.table(0, 2, 0, 2), OUTSIDE);
    }

    private void next() {
        opens("next", "int next(int what)");
        page.reads("NEXT by the latest JOINING: ITEM (what = 0), HAND (1), HELP (2); NONE.");
        HandsHall x = Due.of("a:K!0", 3, 2);
        Due.known(x, "10");
        Due.answers(x, 1, "10");
        x.join();
        int[] want = {2, 1, 416000};
        for (int what = 0; what < 3; what++) {
            page.is("next(" + what + ")", x.next(what), want[what]);
        }
        x.out(1, true);
        for (int what = 0; what < 3; what++) {
            page.is("next(" + what + "), HAND 1 is out", x.next(what), NONE);
        }
        page.reads("OUTSIDE; STATE: there was none since the last HAND came.");
        page.is("next(3)", x.next(3), OUTSIDE);
        page.is("next(-1)", x.next(-1), OUTSIDE);
        x.hand();
        page.is("next(0)", x.next(0), STATE);
        x.join();
        page.is("next(0), joined", x.next(0), NONE);
    }

    private void odds() {
        HandsHall x = Due.of("a:C3!0", 3, 2);
        Due.known(x, "12");
        Due.answers(x, 0, "120");
        Due.answers(x, 1, "110");
        x.deal(2);
        opens("right", "int right(int hand, int what)");
        page.reads("Of a HAND: 0 answers that COUNT, 1 to KNOWN ITEMS, 2 RIGHT, 3 VERSION.");
        // 2 * 16807 is even, and 33614 * 16807 is 564950498: both have VERSION 0; by 1 both have 1.
        int[] want = {3, 2, 1, 0};
        for (int what = 0; what < 4; what++) {
            page.is("right(1, " + what + ")", x.right(1, what), want[what]);
        }
        x.deal(1);
        page.is("right(1, 3)", x.right(1, 3), 1);
        page.reads("UNKNOWN; OUTSIDE.");
        page.is("right(2, 0)", x.right(2, 0), UNKNOWN);
        page.is("right(0, 4)", x.right(0, 4), OUTSIDE);
        opens("guessing", "long guessing(int hand, int part)");
        page.reads("GUESSING.");
        page.is("two of two: 1", x.guessing(0, 0), 1);
        page.is("two of two: by 9", x.guessing(0, 1), 9);
        page.is("one of two: 5", x.guessing(1, 0), 5);
        page.is("one of two: by 9", x.guessing(1, 1), 9);
        page.reads("UNKNOWN, OUTSIDE (LOST less 1, 2).");
        page.is("guessing(2, 0)", x.guessing(2, 0), LOST - 1);
        page.is("guessing(0, 2)", x.guessing(0, 2), LOST - 2);
        opens("copying", "long copying(int a, int b, int part)");
        page.reads("COPYING.");
        // Two or three of three: 3 * 2 + 1 by 27.
        page.is("two of three: 7", x.copying(0, 1, 0), 7);
        page.is("two of three: by 27", x.copying(0, 1, 1), 27);
        page.reads("UNKNOWN: also both are one; OUTSIDE, likewise.");
        page.is("copying(0, 2, 0)", x.copying(0, 2, 0), LOST - 1);
        page.is("copying(1, 1, 0)", x.copying(1, 1, 0), LOST - 1);
        page.is("copying(0, 1, 2)", x.copying(0, 1, 2), LOST - 2);
    }

    private void compared() {
        HandsHall x = Due.of("a:K!0", 2, 4);
        Due.known(x, "11");
        x.show(0, 6);
        Due.answers(x, 0, "11");
        Due.answers(x, 3, "00");
        opens("misread", "int misread(int n)");
        page.reads("MISREAD parts, as bits.");
        page.is("misread(1)", x.misread(1), 6);
        page.is("misread(2)", x.misread(2), 0);
        page.reads("OUTSIDE: n 1 to 10.");
        page.is("misread(0)", x.misread(0), OUTSIDE);
        page.is("misread(10)", x.misread(10), 0);
        page.is("misread(11)", x.misread(11), OUTSIDE);
        opens("deal", "int deal(int seed)");
        page.reads("VERSIONS are DEALT: HANDS that have VERSION 1.");
        page.is("deal(1)", x.deal(1), 3);
        page.reads("OUTSIDE.");
        page.is("deal(0)", x.deal(0), OUTSIDE);
        page.is("deal(1000001)", x.deal(1000001), OUTSIDE);
        opens("better", "long better(int part)");
        page.reads("BETTER.");
        page.is("both RIGHT ones of four are of VERSION 1: 1", x.better(0), 1);
        page.is("both RIGHT ones of four are of VERSION 1: by 6", x.better(1), 6);
        page.reads("OUTSIDE.");
        page.is("better(2)", x.better(2), LOST - 2);
        page.is("better(-1)", x.better(-1), LOST - 2);
        opens("lean", "int lean(int hand)");
        page.reads("ITEMS that LEAN on a HAND, as bits.");
        x.item(0, 2);
        x.answer(0, 2, 1);
        page.is("lean(0)", x.lean(0), 4);
        page.is("lean(1)", x.lean(1), 0);
        page.reads("UNKNOWN.");
        page.is("lean(4)", x.lean(4), UNKNOWN);
        page.reads("(The latest JOINING stays.)");
        page.is("share(2, 1)", x.share(2, 1), 500000);
        page.is("table(0, 2, 1, 1)", x.table(0, 2, 1, 1), NONE);
    }

    private void coins() {
        HandsHall x = Due.of("a:K!0", 3, 1);
        Due.known(x, "11");
        Due.answers(x, 0, "100");
        opens("coins", "int coins(int hand)");
        page.reads("COINS of a HAND.");
        page.is("coins(0)", x.coins(0), 3 * 2 + 3 - 1);
        page.reads("UNKNOWN.");
        page.is("coins(1)", x.coins(1), UNKNOWN);
        opens("pays", "int pays(int saying, int right, int wrong)");
        page.reads("What a SAYING is paid: 1.");
        page.is("pays(20, 2, -1)", x.pays(20, 2, -1), 1);
        page.reads("OUTSIDE.");
        page.is("pays(21, 0, 0)", x.pays(21, 0, 0), OUTSIDE);
        page.is("pays(0, 1001, 0)", x.pays(0, 1001, 0), OUTSIDE);
        page.is("pays(0, 0, -1001)", x.pays(0, 0, -1001), OUTSIDE);
        opens("belief", "int belief(int what)");
        page.reads("TRUE: NONE; else the BELIEF (what = 0), the SAYING (1), by how much it brings more (2).");
        // 2 * 7 - 13 is the first above 0.
        int[] want = {7, 20, 1};
        for (int what = 0; what < 3; what++) {
            page.is("belief(" + what + ")", x.belief(what), want[what]);
            page.is("belief(" + what + ") of a new object", new HandsHall().belief(what), NONE);
        }
        page.reads("OUTSIDE.");
        page.is("belief(3)", x.belief(3), OUTSIDE);
        page.is("belief(-1)", x.belief(-1), OUTSIDE);
    }

    private void plan() {
        opens("plan", "int plan(int q, int s)");
        page.reads("PLAN; NONE.");
        HandsHall x = new HandsHall();
        page.is("plan(60, 70)", x.plan(60, 70), 7);
        page.is("plan(50, 51)", x.plan(50, 51), NONE);
        page.reads("OUTSIDE.");
        page.is("plan(101, 0)", x.plan(101, 0), OUTSIDE);
        page.is("plan(0, -1)", x.plan(0, -1), OUTSIDE);
        opens("told", "int told(int what)");
        page.reads("0 signs, 1 STEPS, 2 ITEMS, 3 HANDS, 4 answers that COUNT, 5 ITEMS that are OPEN, as bits.");
        HandsHall y = Due.of("a:K!0;b:K<a!501");
        y.item(1, 0);
        y.item(0, 0);
        y.item(0, 1);
        Due.hands(y, 4);
        y.answer(0, 1, 0);
        y.answer(1, 1, 0);
        y.answer(2, 2, 0);
        y.answer(3, 2, 0);
        y.out(3, true);
        Due.say(y, "abcde");
        int[] want = {5, 2, 3, 4, 3, 2 + 4};
        for (int what = 0; what < 6; what++) {
            page.is("told(" + what + ")", y.told(what), want[what]);
        }
        page.reads("OUTSIDE.");
        page.is("told(6)", y.told(6), OUTSIDE);
        page.is("told(-1)", y.told(-1), OUTSIDE);
        page.is("promises", number, 33);
    }
}

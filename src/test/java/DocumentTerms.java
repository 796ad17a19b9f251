import java.util.regex.Matcher;
import java.util.regex.Pattern;

/** The document's "Terms": its first paragraph, and its parts 1 (tasks) and 2 (hands). */
final class DocumentTerms {
    private static final int NONE = -6, UNKNOWN = -1, OUTSIDE = -2, STATE = -3, FULL = -4, NO = -5;
    private static final long LOST = -1000000000000000000L;

    private static final Pattern STEP = Pattern.compile("([a-h]):(C[234]|K|O)(?:<([a-h]+))?!\\d{1,3}");

    private final Reader page;

    DocumentTerms(Reader page) {
        this.page = page;
    }

    void all() {
        page.passes("## Terms");
        refusals();
        changeNothing();
        numbers();
        text();
        fault();
        taken();
        items();
        needs();
        given();
        hands();
        new DocumentJoining(page).all();
        new DocumentOdds(page).all();
    }

    private void refusals() {
        page.reads("Calls that are refused answer, the first of these that fits: UNKNOWN -1 (there is no such STEP, "
            + "ITEM, HAND, LABEL of an ITEM), OUTSIDE -2 (another number is not as told), STATE -3 (as told), FULL "
            + "-4, NO -5 (as told).");
        HandsHall x = Due.of("a:K!0;b:K<a!999");
        x.item(0, 0);
        x.item(1, 0);
        x.hand();
        page.is("no such STEP", x.step(2, 0), UNKNOWN);
        page.is("no such ITEM", x.ofItem(2, 0), UNKNOWN);
        page.is("no such HAND", x.coins(1), UNKNOWN);
        page.is("no such LABEL", x.settle(0, 2), UNKNOWN);
        page.is("another number", x.step(0, 4), OUTSIDE);
        page.is("UNKNOWN ahead of OUTSIDE", x.step(2, 4), UNKNOWN);
        page.is("STATE", x.answer(0, 1, 0), STATE);
        page.is("UNKNOWN ahead of STATE", x.answer(0, 1, 2), UNKNOWN);
        page.is("OUTSIDE ahead of STATE", x.next(3), OUTSIDE);
        x.answer(0, 0, 1);
        page.is("NO", x.answer(0, 0, 1), NO);
        page.is("OUTSIDE, though there is one of that STEP", x.item(0, 10), OUTSIDE);
        x.out(0, true);
        page.is("STATE ahead of NO", x.answer(0, 0, 1), STATE);
        HandsHall full = Scene.FULL.make();
        page.is("FULL", full.hand(), FULL);
        page.is("OUTSIDE ahead of FULL", full.say(127), OUTSIDE);
        page.is("UNKNOWN ahead of FULL", full.item(8, 0), UNKNOWN);
        page.is("FULL ahead of NO", full.item(0, 0), FULL);
    }

    /** One call of each name that may be refused (but hand), all refused, on one object. */
    private static boolean areRefused(HandsHall x) {
        long[] got = {x.say(32), x.task(), x.step(5, 0), x.item(0, 0), x.known(2, 0), x.settle(2, 0), x.show(0, 16),
            x.ofItem(0, 10), x.out(4, true), x.answer(0, 0, 1), x.back(0, 8), x.said(4, 0), x.set(0, 101),
            x.share(0, 3), x.table(0, 5, 0, 0), x.next(3), x.right(0, 4), x.guessing(0, 2), x.copying(1, 1, 0),
            x.misread(11), x.deal(0), x.better(2), x.lean(4), x.coins(4), x.pays(21, 9, 9), x.belief(3),
            x.plan(101, 0), x.told(6)};
        int refused = 0;
        for (long answer : got) {
            refused += answer < 0 && answer != NONE ? 1 : 0;
        }
        return refused == got.length;
    }

    private void changeNothing() {
        page.reads("They change nothing.");
        for (int group = 0; group < Scene.groups(); group++) {
            HandsHall x = Scene.RICH.make();
            page.is("one of each is refused", areRefused(x));
            page.is("what is seen behind them (" + group + ")", Scene.RICH.unlike(group, x), -1);
        }
    }

    private void numbers() {
        page.reads("Quotients are cut.");
        HandsHall x = Due.of("a:C3!0", 2, 1);
        page.is("1000000 by 3", x.share(0, 2), 333333);
        page.is("333333 by 1000", x.ofItem(0, 8), 333);
        page.reads("Fractions are told by part: 0 the upper, 1 the lower number, in lowest terms (0 by 1 for none); "
            + "refused with LOST and the refusal.");
        page.is("nothing to look at: 1", x.guessing(0, 0), 1);
        page.is("nothing to look at: by 1", x.guessing(0, 1), 1);
        HandsHall y = Due.of("a:C4!0;b:K!0");
        y.item(0, 0);
        y.item(1, 0);
        Due.hands(y, 2);
        Due.known(y, "00");
        Due.answers(y, 0, "01");
        // One or two of two: 1 - 3 by 4 times 1 by 2, which is 5 by 8 (and 10 by 16).
        page.is("5 by 8", y.guessing(0, 0), 5);
        page.is("5 by 8", y.guessing(0, 1), 8);
        page.is("UNKNOWN", y.guessing(2, 0), LOST - 1);
        page.is("OUTSIDE", y.guessing(0, 2), LOST - 2);
        page.is("UNKNOWN", y.copying(0, 0, 0), LOST - 1);
        page.is("OUTSIDE", y.copying(0, 1, -1), LOST - 2);
        page.is("OUTSIDE", y.better(2), LOST - 2);
    }

    // ---- 1 tasks

    private static int faultOf(String text) {
        HandsHall x = new HandsHall();
        Due.say(x, text);
        return x.fault();
    }

    private void text() {
        page.reads("======== 1 A TASK's text: one or more STEPS with a ; between two (60 signs, codes 33 to 126, 8 "
            + "STEPS);");
        page.is("no STEP", faultOf(""), 0);
        page.is("one STEP", faultOf("a:K!0"), NONE);
        page.is("two STEPS", faultOf("a:K!0;b:K!0"), NONE);
        page.is("nothing between two", faultOf("a:K!0b:K!0"), 5);
        page.is("60 signs, 8 STEPS", Scene.SIXTY.length() == 60 ? Due.of(Scene.SIXTY).told(1) : 0, 8);
        HandsHall x = new HandsHall();
        int[] signs = {32, 33, 126, 127};
        int[] want = {OUTSIDE, 1, 2, OUTSIDE};
        for (int i = 0; i < 4; i++) {
            page.is("say(" + signs[i] + ")", x.say(signs[i]), want[i]);
        }
        for (int n = 3; n <= 60; n++) {
            x.say('a');
        }
        page.is("signs", x.told(0), 60);
        page.is("the 61st", x.say('a'), FULL);
        page.reads("a STEP: a NAME (a to h, none twice), a :, a KIND (C and 2, 3 or 4: CHOICE of so many LABELS; K: "
            + "CHECK, of two; O: ORDER, of two), perhaps a < and one or more NAMES of STEPS ahead of it (rising, as "
            + "letters), an !, and a number of 1 to 3 digits.");
        HandsHall y = Due.of("h:C2!0;a:C3!99;c:C4<ah!999;b:K<c!7;d:O<abc!010");
        int[][] steps = {{7, 2, 0, 0}, {0, 3, 0, 99}, {2, 4, 3, 999}, {1, 2, 4, 7}, {3, 2, 2 + 8 + 4, 10}};
        for (int i = 0; i < 5; i++) {
            for (int what = 0; what < 4; what++) {
                page.is("step(" + i + ", " + what + ")", y.step(i, what), steps[i][what]);
            }
        }
        String[] not = {"i:K!0", "a;K!0", "a:D!0", "a:C1!0", "a:C5!0", "a:K0", "a:K!", "a:K!x", "a:K!1000",
            "a:K!0;a:K!0", "a:K!0;b:K<!0", "a:K!0;b:K<b!0", "b:K!0;a:K!0;c:K<ba!0", "b:K!0;a:K!0;c:K<aa!0", "a:K<b!0;b:K!0"};
        for (String text : not) {
            page.is(text, faultOf(text) >= 0);
        }
    }

    /** Whether a text is a TASK's: cut at each ; and held against one pattern. */
    private static boolean isText(String text) {
        String ahead = "";
        for (String step : text.split(";", -1)) {
            Matcher m = STEP.matcher(step);
            if (!m.matches() || ahead.contains(m.group(1)) || ahead.length() == 8) {
                return false;
            }
            String needs = m.group(3) == null ? "" : m.group(3);
            for (int i = 0; i < needs.length(); i++) {
                if (ahead.indexOf(needs.charAt(i)) < 0 || i > 0 && needs.charAt(i) <= needs.charAt(i - 1)) {
                    return false;
                }
            }
            ahead += m.group(1);
        }
        return true;
    }

    /** Whether signs behind these make a text: one of few ways to end it does, if any does. */
    private static boolean goesOn(String start) {
        for (String end : new String[] {"", "0", "!0", "2!0", "K!0", ":K!0"}) {
            if (isText(start + end)) {
                return true;
            }
        }
        for (char name = 'a'; name <= 'h'; name++) {
            if (isText(start + name + "!0") || isText(start + name + ":K!0")) {
                return true;
            }
        }
        return false;
    }

    private static int dueFault(String text) {
        for (int i = 0; i < text.length(); i++) {
            if (!goesOn(text.substring(0, i + 1))) {
                return i;
            }
        }
        return isText(text) ? NONE : text.length();
    }

    /** Texts with each place of them left out, put anew or put between, and cut there. */
    private void fault() {
        page.reads("THE FAULT: the first place (from 0 on; behind the last sign: their number) at which no sign "
            + "could make a text go on as it stands (a < just if a STEP is ahead; a ; behind 8 STEPS does not stand).");
        String eight = "a:K!0;b:K!0;c:K!0;d:K!0;e:K!0;f:K!0;g:K!0;h:K!0";
        page.is("a < with no STEP ahead", faultOf("a:K<a!0"), 3);
        page.is("a ; behind 8 STEPS", faultOf(eight + ";"), eight.length());
        page.is("behind the last sign", faultOf("a:K!0;b"), 7);
        page.is("the first place", faultOf("a:X!0;a:Y!0"), 2);
        String[] texts = {"c:C3!0;a:O<c!700;f:K<ac!40", "h:C2!999;b:C4<h!1", eight, "b:K!1;a:K!1;c:K<ab!0"};
        for (String text : texts) {
            for (int i = 0; i <= text.length(); i++) {
                String start = text.substring(0, i);
                String rest = text.substring(i);
                faultIsDue(start);
                for (char sign : "abchi:CKO2345<!;09~".toCharArray()) {
                    faultIsDue(start + sign + rest);
                    faultIsDue(start + sign + (rest.isEmpty() ? "" : rest.substring(1)));
                }
            }
        }
    }

    private void faultIsDue(String text) {
        page.is("fault() of " + text, faultOf(text), dueFault(text));
    }

    private void taken() {
        page.reads("STEPS are numbered from 0 on;");
        HandsHall x = Due.of("d:K!0;b:K!0");
        page.is("step(0, 0)", x.step(0, 0), 3);
        page.is("step(1, 0)", x.step(1, 0), 1);
        page.is("step(2, 0)", x.step(2, 0), UNKNOWN);
        page.is("step(-1, 0)", x.step(-1, 0), UNKNOWN);
        page.reads("a text that is taken replaces all: no ITEMS, HANDS, answers are there then.");
        HandsHall y = Scene.RICH.make();
        page.is("ITEMS", y.told(2), 10);
        y.wipe();
        Due.say(y, "a:K!0");
        y.task();
        for (int what = 0; what <= 5; what++) {
            page.is("told(" + what + ")", y.told(what), what == 1 ? 1 : 0);
        }
        y.item(0, 0);
        y.hand();
        page.is("said(0, 0)", y.said(0, 0), NONE);
        page.is("table(0, 2, 0, 0)", y.table(0, 2, 0, 0), NONE);
    }

    private void items() {
        page.reads("ITEMS, 24 at most, numbered from 0 on: of a STEP, for a THING (0 to 9; one of a STEP and a "
            + "THING);");
        HandsHall x = Due.of("a:K!0;b:C3!0;c:C4!0");
        for (int n = 0; n < 24; n++) {
            page.is("the ITEM " + n, x.item(n % 3, n / 3), n);
            page.is("there is one", x.item(n % 3, n / 3), n == 23 ? FULL : NO);
        }
        page.is("one more", x.item(0, 8), FULL);
        HandsHall y = Due.of("a:K!0");
        page.is("THING 9", y.item(0, 9), 0);
        page.is("THING 10", y.item(0, 10), OUTSIDE);
        page.is("THING -1", y.item(0, -1), OUTSIDE);
        page.reads("LABELS 0 on, as many as its KIND has.");
        for (int n = 2; n <= 4; n++) {
            page.is("LABELS", x.ofItem(n - 2, 2), n);
            page.is("the first", x.share(n - 2, 0) > 0);
            page.is("the last", x.share(n - 2, n - 1) > 0);
            page.is("one more", x.share(n - 2, n), UNKNOWN);
            page.is("-1", x.share(n - 2, -1), UNKNOWN);
        }
    }

    private void needs() {
        page.reads("It NEEDS the ITEMS of its THING of STEPS that its STEP names.");
        HandsHall x = Due.of("a:K!0;b:C4!0;c:O!0;d:K<ac!300;e:C3<d!501");
        page.is("item(3, 5)", x.item(3, 5), 0);
        page.is("OPEN: nothing is there", x.ofItem(0, 5), 0);
        x.item(0, 5);
        x.item(2, 4);
        page.is("OPEN: that of c is of another THING", x.ofItem(0, 5), 0);
        x.item(1, 5);
        page.is("OPEN: b is not named", x.ofItem(0, 5), 0);
        x.item(2, 5);
        page.is("OPEN: both are there", x.ofItem(0, 5), 1);
        page.reads("OPEN: each of these is there, and its SURE is at least the number of the first ITEM's own STEP, "
            + "by the latest JOINING.");
        page.is("item(4, 5)", x.item(4, 5), 5);
        page.is("it has SURE 500, less than e's 501", x.ofItem(5, 5), 0);
        x.hand();
        x.set(2, 1);
        page.is("it is answered", x.answer(0, 0, 1), 1);
        page.is("no JOINING yet", x.ofItem(5, 5), 0);
        x.join();
        page.is("SURE", x.ofItem(0, 8), 646);
        page.is("OPEN by that", x.ofItem(5, 5), 1);
        x.back(0, 0);
        page.is("OPEN by the latest JOINING", x.ofItem(5, 5), 1);
        x.join();
        page.is("not OPEN by the next one", x.ofItem(5, 5), 0);
        page.is("told(5)", x.told(5), 1 + 2 + 4 + 8 + 16);
    }

    private void given() {
        page.reads("An ITEM may be KNOWN: its LABEL is told ahead of all answers to it.");
        HandsHall x = Due.of("a:K!0", 3, 1);
        page.is("known(0, 1)", x.known(0, 1), 1);
        x.answer(0, 1, 1);
        page.is("known(1, 1): there is an answer", x.known(1, 1), STATE);
        page.is("ofItem(0, 3)", x.ofItem(0, 3), 1);
        page.is("ofItem(1, 3)", x.ofItem(1, 3), NONE);
        page.reads("SETTLED by an elder: its LABEL is that from then on (KNOWN ones are not SETTLED).");
        page.is("settle(1, 0), answered otherwise", x.settle(1, 0), NONE);
        page.is("END", x.ofItem(1, 7), 0);
        page.is("SURE", x.ofItem(1, 8), 1000);
        page.is("settle(1, 1), another one", x.settle(1, 1), 0);
        page.is("END", x.ofItem(1, 7), 1);
        x.join();
        page.is("END, joined", x.ofItem(1, 7), 1);
        page.is("settle(0, 0), KNOWN", x.settle(0, 0), STATE);
        page.is("known(1, 1), SETTLED", x.known(1, 1), STATE);
    }

    // ---- 2 hands

    private void hands() {
        page.reads("======== 2 HANDS, 10 at most, numbered from 0 on; one may be PUT OUT, and come back.");
        HandsHall x = Due.of("a:K!0;b:K<a!600");
        x.item(0, 0);
        x.item(1, 0);
        for (int n = 0; n < 10; n++) {
            page.is("hand()", x.hand(), n);
        }
        page.is("one more", x.hand(), FULL);
        page.is("out(9, true)", x.out(9, true), 0);
        page.is("out(9, false)", x.out(9, false), 1);
        page.is("out(9, false)", x.out(9, false), 0);
        page.reads("A HAND answers an OPEN ITEM with a LABEL once; it may be taken back (then it may answer anew).");
        page.is("answer(0, 1, 0), not OPEN", x.answer(0, 1, 0), STATE);
        page.is("answer(0, 0, 0)", x.answer(0, 0, 0), 1);
        page.is("answer(0, 0, 1)", x.answer(0, 0, 1), NO);
        page.is("back(0, 0)", x.back(0, 0), 0);
        page.is("back(0, 0) again", x.back(0, 0), NO);
        page.is("answer(0, 0, 1) anew", x.answer(0, 0, 1), 1);
        page.is("said(0, 0)", x.said(0, 0), 1);
        page.reads("Answers COUNT, if their HAND is not PUT OUT.");
        x.answer(1, 0, 1);
        page.is("answers that COUNT", x.ofItem(0, 6), 2);
        x.out(0, true);
        page.is("answers that COUNT, one is out", x.ofItem(0, 6), 1);
        page.is("what it said stays", x.said(0, 0), 1);
        x.out(0, false);
        page.is("answers that COUNT, it is back", x.told(4), 2);
        page.reads("PARTS of an ITEM: which of four parts of the guide it shows (bits, 0 at first).");
        page.is("show(0, 15): 0 at first", x.show(0, 15), 0);
        page.is("show(0, 9)", x.show(0, 9), 15);
        page.is("ofItem(0, 9)", x.ofItem(0, 9), 9);
        page.is("show(0, 16)", x.show(0, 16), OUTSIDE);
    }
}

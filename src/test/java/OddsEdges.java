import java.math.BigInteger;

/** Edges of promises 22 to 28: RIGHT, GUESSING, COPYING, MISREAD, VERSIONS, BETTER, LEANS. */
final class OddsEdges {
    private static final int UNKNOWN = -1, OUTSIDE = -2, STATE = -3, NONE = -6;
    private static final long LOST = -1000000000000000000L;

    private final Book book;

    OddsEdges(Book book) {
        this.book = book;
    }

    void all() {
        right();
        rightRefused();
        guessing();
        guessingRefused();
        copying();
        copyingFourteen();
        copyingRefused();
        misread();
        deal();
        better();
        betterForty();
        betterRefused();
        lean();
        leanLeavesAll();
    }

    private void isBy(String call, long upper, long lower, long wantUpper, long wantLower) {
        book.is(call + ", the upper", upper, wantUpper);
        book.is(call + ", the lower", lower, wantLower);
    }

    private void guessed(HandsHall x, String why, int hand, long upper, long lower) {
        isBy("guessing of " + hand + ": " + why, x.guessing(hand, 0), x.guessing(hand, 1), upper, lower);
    }

    private void copied(HandsHall x, String why, long upper, long lower) {
        isBy("copying of 0, 1: " + why, x.copying(0, 1, 0), x.copying(0, 1, 1), upper, lower);
        isBy("copying of 1, 0: " + why, x.copying(1, 0, 0), x.copying(1, 0, 1), upper, lower);
    }

    private void compared(HandsHall x, String why, long upper, long lower) {
        isBy("better: " + why, x.better(0), x.better(1), upper, lower);
    }

    private void rights(HandsHall x, String why, int hand, int... want) {
        for (int what = 0; what < want.length; what++) {
            book.is("right(" + hand + ", " + what + "): " + why, x.right(hand, what), want[what]);
        }
    }

    private void right() {
        book.promise(22, "right", "Of a HAND: 0 answers that COUNT, 1 to KNOWN ITEMS, 2 RIGHT, 3 VERSION.");
        book.says("RIGHT are answers that COUNT to KNOWN ITEMS, with their LABEL.");
        HandsHall x = Scene.SINCE.make();
        rights(x, "all right", 0, 4, 2, 2, 1);
        rights(x, "all wrong", 2, 3, 2, 0, 0);
        rights(x, "out", 3, 0, 0, 0);
        rights(x, "it came since", 4, 0, 0, 0, 0);
        x.out(3, false);
        rights(x, "back", 3, 3, 1, 0);
        x.out(0, true);
        rights(x, "out", 0, 0, 0, 0, 1);
        HandsHall all = Due.of("a:C4!0;b:C4!0;c:C4!0", 24, 1);
        rights(all, "no answers", 0, 0, 0, 0, 0);
        for (int item = 0; item < 24; item++) {
            all.known(item, item % 4);
            all.answer(0, item, item % 4);
        }
        rights(all, "24 answers", 0, 24, 24, 24, 0);
        all.back(0, 23);
        all.answer(0, 23, 0);
        rights(all, "the last is not RIGHT", 0, 24, 24, 23, 0);
    }

    private void rightRefused() {
        book.says("UNKNOWN; OUTSIDE.");
        book.refused(Scene.NEW, "right(0, 0)", x -> x.right(0, 0), UNKNOWN);
        for (int what : Book.beyond(0, 3)) {
            book.refused(Scene.RICH, "right(0, " + what + ")", x -> x.right(0, what), OUTSIDE);
            book.refused(Scene.RICH, "right(3, " + what + ")", x -> x.right(3, what), OUTSIDE);
            book.refused(Scene.RICH, "right(4, " + what + "): both fit", x -> x.right(4, what), UNKNOWN);
        }
        for (int hand : Book.beyond(0, 3)) {
            book.refused(Scene.RICH, "right(" + hand + ", 3)", x -> x.right(hand, 3), UNKNOWN);
        }
        for (int hand : Book.beyond(0, 9)) {
            book.refused(Scene.FULL, "right(" + hand + ", 0)", x -> x.right(hand, 0), UNKNOWN);
        }
    }

    private void guessing() {
        book.promise(23, "guessing", "GUESSING.");
        book.says("is RIGHT in as many of the KNOWN ITEMS that the HAND answered, or more");
        String[] kinds = {"K", "C3", "C4"};
        for (int k = 0; k < 3; k++) {
            HandsHall x = Due.of("a:" + kinds[k] + "!0", 3, 2);
            guessed(x, "no answers, none KNOWN", 0, 1, 1);
            Due.known(x, "01");
            guessed(x, "no answers", 0, 1, 1);
            x.answer(0, 2, 0);
            guessed(x, "none to a KNOWN one", 0, 1, 1);
            x.answer(0, 0, 1);
            guessed(x, "one, not RIGHT", 0, 1, 1);
            x.answer(1, 0, 0);
            guessed(x, "one, RIGHT", 1, 1, k + 2);
            x.answer(1, 1, 1);
            guessed(x, "two, RIGHT", 1, 1, (k + 2) * (k + 2));
            x.answer(1, 2, 0);
            guessed(x, "one more, not to a KNOWN one", 1, 1, (k + 2) * (k + 2));
            x.answer(0, 1, 1);
            // One of two or more: all but none. 1 - 1/4, 1 - 4/9, 1 - 9/16.
            long[][] one = {{3, 4}, {5, 9}, {7, 16}};
            guessed(x, "one of two", 0, one[k][0], one[k][1]);
            x.out(1, true);
            guessed(x, "out", 1, 1, 1);
        }
        book.says("in lowest terms");
        HandsHall x = Due.of("a:C4!0;b:K!0");
        x.item(0, 0);
        x.item(1, 0);
        x.hand();
        Due.known(x, "00");
        Due.answers(x, 0, "01");
        guessed(x, "one of two: 5 by 8, not 10 by 16", 0, 5, 8);
        HandsHall all = Due.of("a:C4!0;b:C4!0;c:C4!0", 24, 1);
        for (int item = 0; item < 24; item++) {
            all.known(item, 3);
            all.answer(0, item, 3);
        }
        guessed(all, "24 of 24 of 4 LABELS", 0, 1, 281474976710656L);
    }

    private void guessingRefused() {
        book.says("UNKNOWN, OUTSIDE (LOST less 1, 2).");
        book.says("refused with LOST and the refusal");
        book.refused(Scene.NEW, "guessing(0, 0)", x -> x.guessing(0, 0), LOST - 1);
        for (int part : Book.beyond(0, 1)) {
            book.refused(Scene.RICH, "guessing(0, " + part + ")", x -> x.guessing(0, part), LOST - 2);
            book.refused(Scene.RICH, "guessing(3, " + part + ")", x -> x.guessing(3, part), LOST - 2);
            book.refused(Scene.RICH, "guessing(4, " + part + "): both fit", x -> x.guessing(4, part), LOST - 1);
        }
        for (int hand : Book.beyond(0, 3)) {
            book.refused(Scene.RICH, "guessing(" + hand + ", 0)", x -> x.guessing(hand, 0), LOST - 1);
            book.refused(Scene.RICH, "guessing(" + hand + ", 1)", x -> x.guessing(hand, 1), LOST - 1);
        }
        for (int hand : Book.beyond(0, 9)) {
            book.refused(Scene.FULL, "guessing(" + hand + ", 0)", x -> x.guessing(hand, 0), LOST - 1);
        }
    }

    private void copying() {
        book.promise(24, "copying", "COPYING. UNKNOWN: also both are one; OUTSIDE, likewise.");
        book.says("say the same in as many of the ITEMS both answered, or more");
        String[] kinds = {"K", "C3", "C4"};
        for (int k = 0; k < 3; k++) {
            int n = k + 2;
            HandsHall x = Due.of("a:" + kinds[k] + "!0", 4, 2);
            copied(x, "no answers", 1, 1);
            x.answer(0, 0, 1);
            x.answer(1, 1, 1);
            copied(x, "no ITEM both answered", 1, 1);
            x.answer(0, 1, 0);
            copied(x, "one, unlike", 1, 1);
            x.back(0, 1);
            x.answer(0, 1, 1);
            copied(x, "one, the same", 1, n);
            x.answer(1, 0, 1);
            copied(x, "two, the same", 1, n * n);
            x.answer(0, 3, 0);
            x.answer(1, 3, 1);
            // Two or three of three the same: (3 * (n - 1) + 1) by n^3.
            long[][] two = {{1, 2}, {7, 27}, {5, 32}};
            copied(x, "two of three", two[k][0], two[k][1]);
            x.out(0, true);
            copied(x, "HAND 0 is out", 1, 1);
            x.out(0, false);
            x.out(1, true);
            copied(x, "HAND 1 is out", 1, 1);
        }
    }

    private void copyingFourteen() {
        book.says("14 such ITEMS at most are looked at, the first ones");
        HandsHall x = Due.of("a:C4!0;b:C4!0;c:C4!0", 24, 2);
        long ways = 1;
        for (int n = 1; n <= 24; n++) {
            x.answer(0, n - 1, 2);
            x.answer(1, n - 1, 2);
            ways *= n <= 14 ? 4 : 1;
            copied(x, n + " the same", 1, ways);
        }
        x.back(0, 14);
        x.answer(0, 14, 0);
        copied(x, "the 15th is unlike", 1, ways);
        x.back(0, 13);
        x.answer(0, 13, 0);
        // 13 or 14 of 14: (14 * 3 + 1) by 4^14.
        copied(x, "the 14th is unlike", 43, ways);
        x.back(0, 13);
        // Now the 15th, which is unlike, is the last looked at.
        copied(x, "the 14th is taken back", 43, ways);
        x.back(0, 14);
        copied(x, "the 15th is taken back too", 1, ways);
    }

    private void copyingRefused() {
        book.says("COPYING. UNKNOWN: also both are one; OUTSIDE, likewise.");
        book.refused(Scene.NEW, "copying(0, 0, 0)", x -> x.copying(0, 0, 0), LOST - 1);
        book.refused(Scene.NEW, "copying(0, 1, 0)", x -> x.copying(0, 1, 0), LOST - 1);
        for (int hand : Book.beyond(0, 3)) {
            String bad = "" + hand;
            book.refused(Scene.RICH, "copying(" + bad + ", 0, 0)", x -> x.copying(hand, 0, 0), LOST - 1);
            book.refused(Scene.RICH, "copying(0, " + bad + ", 1)", x -> x.copying(0, hand, 1), LOST - 1);
            book.refused(Scene.RICH, "copying(" + bad + ", " + bad + ", 0)", x -> x.copying(hand, hand, 0), LOST - 1);
            book.refused(Scene.RICH, "copying(" + bad + ", 1, 2): both fit", x -> x.copying(hand, 1, 2), LOST - 1);
            book.refused(Scene.RICH, "copying(1, " + bad + ", -1): both fit", x -> x.copying(1, hand, -1), LOST - 1);
        }
        for (int hand : Book.beyond(0, 9)) {
            book.refused(Scene.FULL, "copying(" + hand + ", 9, 0)", x -> x.copying(hand, 9, 0), LOST - 1);
            book.refused(Scene.FULL, "copying(9, " + hand + ", 0)", x -> x.copying(9, hand, 0), LOST - 1);
        }
        for (int h = 0; h < 4; h++) {
            int hand = h;
            book.refused(Scene.RICH, "copying(" + h + ", " + h + ", 0)", x -> x.copying(hand, hand, 0), LOST - 1);
            book.refused(Scene.RICH, "copying(" + h + ", " + h + ", 2): both fit", x -> x.copying(hand, hand, 2),
                LOST - 1);
        }
        for (int part : Book.beyond(0, 1)) {
            book.refused(Scene.RICH, "copying(0, 1, " + part + ")", x -> x.copying(0, 1, part), LOST - 2);
            book.refused(Scene.RICH, "copying(3, 0, " + part + ")", x -> x.copying(3, 0, part), LOST - 2);
        }
    }

    private void misread() {
        book.promise(25, "misread", "MISREAD parts, as bits. OUTSIDE: n 1 to 10.");
        book.says("for one KNOWN ITEM that shows it n HANDS or more said one and the same other LABEL");
        HandsHall x = Due.of("a:C4!0;b:C4!0;c:C4!0", 24, 10);
        book.is("misread(1): nothing is KNOWN", x.misread(1), 0);
        x.known(23, 3);
        x.show(23, 8);
        x.known(0, 0);
        x.show(22, 7);
        book.is("misread(1): nothing is said", x.misread(1), 0);
        for (int hand = 0; hand < 10; hand++) {
            book.is("misread(" + (hand + 1) + "), " + hand + " said so", x.misread(hand + 1), 0);
            x.answer(hand, 23, 2);
            x.answer(hand, 0, 1);
            x.answer(hand, 22, 1);
            book.is("misread(" + (hand + 1) + "), one more said so", x.misread(hand + 1), 8);
            book.is("misread(1)", x.misread(1), 8);
        }
        x.show(23, 0);
        book.is("misread(1): no part is shown", x.misread(1), 0);
        x.show(23, 15);
        x.show(0, 1);
        book.is("misread(10): all parts", x.misread(10), 15);
        x.out(9, true);
        book.is("misread(10): one is out", x.misread(10), 0);
        book.is("misread(9): one is out", x.misread(9), 15);
        HandsHall y = Due.of("a:C3!0", 2, 4);
        Due.known(y, "11");
        y.show(0, 1);
        y.show(1, 2);
        Due.answers(y, 0, "10");
        Due.answers(y, 1, "10");
        Due.answers(y, 2, "02");
        Due.answers(y, 3, "22");
        book.is("misread(1)", y.misread(1), 3);
        book.is("misread(2): one and the same, and another one", y.misread(2), 2);
        book.is("misread(3): not two and two", y.misread(3), 0);
        for (int label = 0; label < 3; label++) {
            HandsHall z = Due.of("a:C3!0", 1, 1);
            z.known(0, 1);
            z.show(0, 4);
            z.answer(0, 0, label);
            book.is("misread(1): " + label + " is said where 1 is so", z.misread(1), label == 1 ? 0 : 4);
        }
        for (int n : Book.beyond(1, 10)) {
            book.refused(Scene.NEW, "misread(" + n + ")", z -> z.misread(n), OUTSIDE);
            book.refused(Scene.RICH, "misread(" + n + ")", z -> z.misread(n), OUTSIDE);
        }
    }

    private void deal() {
        book.promise(26, "deal", "VERSIONS are DEALT: HANDS that have VERSION 1. OUTSIDE.");
        book.says("each HAND has VERSION 0 or 1 of the guide (0 at first); DEALT by a seed (1 to 1000000)");
        book.is("deal(1) without HANDS", new HandsHall().deal(1), 0);
        for (int seed : new int[] {1, 2, 127773, 127774, 999999, 1000000}) {
            HandsHall x = new HandsHall();
            Due.hands(x, 10);
            book.is("VERSION of 9 at first", x.right(9, 3), 0);
            x.out(4, true);
            BigInteger now = BigInteger.valueOf(seed);
            int[] version = new int[10];
            int ones = 0;
            for (int hand = 0; hand < 10; hand++) {
                now = now.multiply(BigInteger.valueOf(16807)).mod(BigInteger.valueOf(2147483647));
                version[hand] = now.mod(BigInteger.TWO).intValue();
                ones += version[hand];
            }
            x.deal(7);
            book.is("deal(" + seed + ")", x.deal(seed), ones);
            for (int hand = 0; hand < 10; hand++) {
                book.is("VERSION of " + hand + " by " + seed, x.right(hand, 3), version[hand]);
            }
        }
        HandsHall x = new HandsHall();
        x.hand();
        book.is("deal(1) to one", x.deal(1), 1);
        x.hand();
        book.is("VERSION of one that came since", x.right(1, 3), 0);
        for (int seed : Book.beyond(1, 1000000)) {
            book.refused(Scene.NEW, "deal(" + seed + ")", y -> y.deal(seed), OUTSIDE);
            book.refused(Scene.RICH, "deal(" + seed + ")", y -> y.deal(seed), OUTSIDE);
            book.refused(Scene.FULL, "deal(" + seed + ")", y -> y.deal(seed), OUTSIDE);
        }
    }

    /** deal(1): VERSIONS 1 1 1 0 0 0 0 0 1 1. */
    private static HandsHall dealt(String known, int hands) {
        HandsHall x = Due.of("a:K!0;b:K!0;c:K!0", known.length(), hands);
        Due.known(x, known);
        x.deal(1);
        return x;
    }

    private void better() {
        book.promise(27, "better", "BETTER. OUTSIDE.");
        book.says("those of VERSION 1 have as many RIGHT, or more");
        compared(new HandsHall(), "there is nothing", 1, 1);
        HandsHall x = dealt("..1", 4);
        compared(x, "no answers", 1, 1);
        Due.answers(x, 0, "11");
        Due.answers(x, 3, "00");
        compared(x, "none to a KNOWN one", 1, 1);
        x.answer(0, 2, 1);
        compared(x, "one of VERSION 1, RIGHT", 1, 1);
        x.answer(3, 2, 0);
        compared(x, "one of each, the one of VERSION 1 RIGHT", 1, 2);
        x.out(3, true);
        compared(x, "that of VERSION 0 is out", 1, 1);
        x.out(3, false);
        x.out(0, true);
        compared(x, "that of VERSION 1 is out", 1, 1);
        HandsHall zero = dealt("1", 4);
        Due.answers(zero, 0, "0");
        Due.answers(zero, 3, "1");
        compared(zero, "that of VERSION 0 RIGHT", 1, 1);
        HandsHall all = dealt("11", 4);
        Due.answers(all, 0, "11");
        Due.answers(all, 3, "11");
        compared(all, "all are RIGHT", 1, 1);
        HandsHall none = dealt("11", 4);
        Due.answers(none, 0, "00");
        Due.answers(none, 3, "00");
        compared(none, "none is RIGHT", 1, 1);
        HandsHall two = dealt("11", 4);
        Due.answers(two, 0, "11");
        Due.answers(two, 3, "00");
        compared(two, "both of VERSION 1 RIGHT: 1 by 6", 1, 6);
        two.back(0, 1);
        two.answer(0, 1, 0);
        compared(two, "one RIGHT of VERSION 1: 2 by 4", 1, 2);
    }

    private void betterForty() {
        book.says("40 of these answers at most are looked at, the first ones by HANDS, then ITEMS");
        HandsHall x = dealt("1111111111", 10);
        Due.answers(x, 0, "1111111111");
        Due.answers(x, 1, "1111111111");
        Due.answers(x, 3, "0000000000");
        Due.answers(x, 4, "000000000");
        // C(39, 20)
        compared(x, "39 answers", 1, 68923264410L);
        x.answer(4, 9, 0);
        compared(x, "40 answers", 1, 137846528820L);
        x.answer(5, 0, 1);
        x.answer(9, 9, 1);
        compared(x, "42 answers: two are not looked at", 1, 137846528820L);
        x.back(4, 9);
        // HAND 5's is the 40th now, and RIGHT: of 21 RIGHT ones 20 of VERSION 1, 20 by C(40, 21).
        compared(x, "41 answers: one is not looked at", 1, 131282408400L / 20);
        x.out(5, true);
        // HAND 9's is, of VERSION 1 and RIGHT: all 21 of 21 by C(40, 21).
        compared(x, "40 answers, the last of VERSION 1", 1, 131282408400L);
    }

    private void betterRefused() {
        book.says("BETTER. OUTSIDE.");
        for (int part : Book.beyond(0, 1)) {
            book.refused(Scene.NEW, "better(" + part + ")", x -> x.better(part), LOST - 2);
            book.refused(Scene.RICH, "better(" + part + ")", x -> x.better(part), LOST - 2);
        }
    }

    private void lean() {
        book.promise(28, "lean", "ITEMS that LEAN on a HAND, as bits. UNKNOWN. (The latest JOINING stays.)");
        book.refused(Scene.NEW, "lean(0)", x -> x.lean(0), UNKNOWN);
        for (int hand : Book.beyond(0, 3)) {
            book.refused(Scene.RICH, "lean(" + hand + ")", x -> x.lean(hand), UNKNOWN);
        }
        for (int hand : Book.beyond(0, 9)) {
            book.refused(Scene.FULL, "lean(" + hand + ")", x -> x.lean(hand), UNKNOWN);
        }
        book.says("by a JOINING of its own with that HAND PUT OUT, is another one than by one with it in");
        HandsHall x = new HandsHall();
        x.hand();
        book.is("lean(0) without ITEMS", x.lean(0), 0);
        x = Due.of("a:K!0;b:K!0;c:K!0", 24, 10);
        book.is("lean(9) without answers", x.lean(9), 0);
        x.known(1, 1);
        x.known(2, 0);
        for (int hand : new int[] {0, 9}) {
            x.answer(hand, 1, 1);
            x.answer(hand, 2, 0);
        }
        book.is("lean(9): KNOWN ones alone", x.lean(9), 0);
        x.answer(9, 0, 1);
        x.answer(9, 23, 1);
        book.is("lean(9): the first ITEM and the last", x.lean(9), 1 + (1 << 23));
        book.is("lean(0): another HAND", x.lean(0), 0);
        x.out(9, true);
        book.is("lean(9), out already: by one with it in", x.lean(9), 1 + (1 << 23));
        x.out(9, false);
        x.settle(23, 0);
        book.is("lean(9): the last ITEM is SETTLED", x.lean(9), 1);
        x.answer(9, 3, 0);
        book.is("lean(9): END 0 is END 0 without answers", x.lean(9), 1);
    }

    /** lean is not refused, yet all that can be seen stays. */
    private void leanLeavesAll() {
        book.says("(The latest JOINING stays.)");
        Scene[] scenes = {Scene.RICH, Scene.SINCE, Scene.FULL};
        for (Scene scene : scenes) {
            for (int hand = 0; hand < 4; hand++) {
                for (int group = 0; group < Scene.groups(); group++) {
                    HandsHall x = scene.make();
                    x.lean(hand);
                    book.is("behind lean(" + hand + ") of " + scene, scene.unlike(group, x), -1);
                }
            }
        }
        HandsHall x = Due.of("a:K!0", 1, 1);
        x.answer(0, 0, 1);
        x.lean(0);
        book.is("lean is no JOINING: table", x.table(0, 2, 0, 0), NONE);
        book.is("lean is no JOINING: next", x.next(0), STATE);
        book.is("lean is no JOINING: share", x.share(0, 1), 500000);
    }
}

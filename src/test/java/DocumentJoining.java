/** The document's "Terms", part 3: JOINING. The numbers due are worked out by hand. */
final class DocumentJoining {
    private static final int NONE = -6, STATE = -3;

    private final Reader page;

    DocumentJoining(Reader page) {
        this.page = page;
    }

    void all() {
        shares();
        tables();
        sharesAnew();
        turns();
        ends();
        latest();
        next();
    }

    private void shared(HandsHall x, String why, int item, int... want) {
        for (int label = 0; label < want.length; label++) {
            page.is("share(" + item + ", " + label + "): " + why, x.share(item, label), want[label]);
        }
    }

    private void tabled(HandsHall x, String why, int hand, int labels, int t, int... want) {
        for (int s = 0; s < want.length; s++) {
            page.is("table(" + hand + ", " + labels + ", " + t + ", " + s + "): " + why, x.table(hand, labels, t, s),
                want[s]);
        }
    }

    private void shares() {
        page.reads("======== 3 JOINING. SHARES of an ITEM: millionths of its LABELS.");
        HandsHall x = Due.of("a:C2!0;b:C3!0;c:C4!0");
        for (int step = 0; step < 3; step++) {
            x.item(step, 0);
            x.item(step, 1);
        }
        shared(x, "of two", 0, 500000, 500000);
        shared(x, "of four", 4, 250000, 250000, 250000, 250000);
        page.reads("At first: of KNOWN, SETTLED ones 1000000 for theirs, 0 for others; of one that has answers that "
            + "COUNT: 1000000 times those with the LABEL by all, cut; else 1000000 by the number of LABELS, cut.");
        x.known(0, 1);
        x.settle(4, 2);
        shared(x, "KNOWN", 0, 0, 1000000);
        shared(x, "SETTLED", 4, 0, 0, 1000000, 0);
        shared(x, "without answers, cut", 2, 333333, 333333, 333333);
        x.join();
        shared(x, "KNOWN, joined", 0, 0, 1000000);
        shared(x, "SETTLED, joined", 4, 0, 0, 1000000, 0);
        shared(x, "without answers, joined", 2, 333333, 333333, 333333);
        // Three answers, 1 1 0: 333333, 666666. What they are at first is seen by the TABLES of a first TURN:
        // SAID of 0: 433333 of 533333, of 1: 766666 of 866666; and a fourth that does not COUNT.
        HandsHall y = Due.of("a:K!0", 1, 4);
        Due.answers(y, 0, "1");
        Due.answers(y, 1, "1");
        Due.answers(y, 2, "0");
        Due.answers(y, 3, "0");
        y.out(3, true);
        y.set(2, 1);
        y.join();
        tabled(y, "it said 1", 0, 2, 0, 187, 812);
        tabled(y, "it said 1", 0, 2, 1, 115, 884);
        tabled(y, "it said 0", 2, 2, 0, 812, 187);
        tabled(y, "it said 0", 2, 2, 1, 884, 115);
    }

    private void tables() {
        page.reads("A TURN: first TABLES: for each HAND, number of LABELS (2, 3, 4), LABEL t and LABEL s: SAID: "
            + "SMOOTH (1 to 100; 10 at first) times 10000, and the sum of SHARES of t of ITEMS of so many LABELS "
            + "that it answered with s (of answers that COUNT); the TABLE's number: 1000 times SAID of t, s by the "
            + "sum of SAID of t and all LABELS, cut (for a HAND that is PUT OUT: all alike).");
        HandsHall x = Due.of("a:C3!0;b:K!0");
        for (int i = 0; i < 3; i++) {
            x.item(i / 2, i % 2);
        }
        Due.known(x, "110");
        Due.hands(x, 2);
        Due.answers(x, 0, "121");
        x.join();
        // Of 1, of three LABELS: 100000, 1100000, 1100000 by 2300000. Of 0, of two: 100000, 1100000 by 1200000.
        tabled(x, "SMOOTH 10", 0, 3, 1, 43, 478, 478);
        tabled(x, "SMOOTH 10", 0, 3, 0, 333, 333, 333);
        tabled(x, "SMOOTH 10", 0, 2, 0, 83, 916);
        tabled(x, "SMOOTH 10", 0, 2, 1, 500, 500);
        tabled(x, "SMOOTH 10", 0, 4, 1, 250, 250, 250, 250);
        tabled(x, "no answers", 1, 3, 1, 333, 333, 333);
        x.set(0, 100);
        x.join();
        // 1000000, 2000000, 2000000 by 5000000.
        tabled(x, "SMOOTH 100", 0, 3, 1, 200, 400, 400);
        x.set(0, 1);
        x.join();
        // 10000, 1010000, 1010000 by 2030000.
        tabled(x, "SMOOTH 1", 0, 3, 1, 4, 497, 497);
        x.out(0, true);
        x.join();
        tabled(x, "out", 0, 3, 1, 333, 333, 333);
        tabled(x, "out", 0, 2, 0, 500, 500);
        tabled(x, "out", 0, 4, 3, 250, 250, 250, 250);
    }

    /**
     * Answers 1 1 0, numbers 812 884 each time: 406000000, 442000000 by 848000000 are 478773, 521226; then 388763676,
     * 460763784 by 849527460 are 457623, 542376; then 371589876, 479460384 by 851050260 are 436625, 563374.
     */
    private void sharesAnew() {
        page.reads("Then SHARES anew of ITEMS that are neither KNOWN nor SETTLED and have answers that COUNT: from "
            + "1000000 by the number of LABELS, cut, on, for each such answer, HANDS in order: each SHARE becomes "
            + "SHARE times the HAND's number (t the SHARE's LABEL, s its answer) times 1000000 by the sum of all "
            + "SHARES times their numbers, cut (all stay, if that sum is 0).");
        HandsHall x = Due.of("a:K!0", 4, 4);
        x.known(1, 0);
        x.settle(2, 1);
        Due.answers(x, 0, "1");
        Due.answers(x, 1, "1");
        Due.answers(x, 2, "0");
        Due.answers(x, 3, "0..1");
        x.out(3, true);
        x.set(2, 1);
        page.is("join()", x.join(), -99);
        shared(x, "three answers that COUNT", 0, 436625, 563374);
        shared(x, "KNOWN", 1, 1000000, 0);
        shared(x, "SETTLED", 2, 0, 1000000);
        shared(x, "one answer that does not COUNT", 3, 500000, 500000);
        // All say 0 to ITEM 23: the nine leave nothing of 0 (77 by 999), the tenth never says 0 where 1 is so.
        HandsHall none = Due.of("a:K!0;b:K!0;c:K!0", 24, 10);
        Due.known(none, "00000000000011111111111");
        none.set(0, 1);
        none.set(2, 1);
        for (int hand = 0; hand < 9; hand++) {
            Due.answers(none, hand, "111111111111000000000000");
        }
        Due.answers(none, 9, "111111111111111111111110");
        none.join();
        tabled(none, "the tenth", 9, 2, 1, 0, 999);
        shared(none, "the sum is 0", 23, 0, 1000000);
    }

    /** One answer, 1: 353107 646892, 481764 518235, 497956 502043, 499708 500291, 500000 twice. */
    private void turns() {
        page.reads("TURNS go on till in one no SHARE changes by more than NEAR (0 to 100000; 100 at first): it "
            + "RESTS; or MOST of them (1 to 60; 30 at first) are done.");
        int[][] nearMostTurns = {{100, 30, 6}, {0, 60, 6}, {292, 30, 5}, {291, 30, 6}, {100000, 30, 3}, {100, 6, 6},
            {100, 5, -95}, {100, 1, -99}};
        for (int[] w : nearMostTurns) {
            HandsHall x = Due.of("a:K!0", 1, 1);
            x.answer(0, 0, 1);
            x.set(1, w[0]);
            x.set(2, w[1]);
            page.is("join() with NEAR " + w[0] + ", MOST " + w[1], x.join(), w[2]);
        }
        page.reads("TABLES are those of the last TURN.");
        HandsHall x = Due.of("a:K!0", 1, 1);
        x.answer(0, 0, 1);
        x.set(2, 2);
        page.is("join()", x.join(), -98);
        // By the SHARES behind the first TURN: 453107 of 553107, 746892 of 846892.
        tabled(x, "of the second TURN", 0, 2, 0, 180, 819);
        tabled(x, "of the second TURN", 0, 2, 1, 118, 881);
        shared(x, "behind the second TURN", 0, 481764, 518235);
    }

    private void ended(HandsHall x, String why, int item, int end, int sure) {
        page.is("END of " + item + ": " + why, x.ofItem(item, 7), end);
        page.is("SURE of " + item + ": " + why, x.ofItem(item, 8), sure);
    }

    private void ends() {
        page.reads("An ITEM's END: the LABEL with the greatest SHARE, the first such; SURE: that by 1000, cut.");
        HandsHall x = Due.of("a:K!0", 1, 1);
        ended(x, "all alike", 0, 0, 500);
        x.answer(0, 0, 1);
        x.set(2, 1);
        x.join();
        ended(x, "646892", 0, 1, 646);
        x.set(2, 30);
        x.join();
        ended(x, "500000 twice", 0, 0, 500);
        ended(Due.of("a:C3!0", 1, 0), "333333 thrice", 0, 0, 333);
    }

    private void latest() {
        page.reads("They are as by the latest JOINING (of ITEMS made since: as at first without answers); ITEMS that "
            + "are KNOWN or SETTLED since have their LABEL with 1000.");
        HandsHall x = Due.of("a:C3!0", 3, 2);
        x.known(1, 2);
        Due.answers(x, 0, "12");
        x.set(2, 1);
        x.join();
        int sure = x.ofItem(0, 8);
        page.is("SURE of 0", sure > 333);
        ended(x, "joined", 0, 1, sure);
        x.answer(1, 0, 0);
        x.back(0, 0);
        ended(x, "answers are others since", 0, 1, sure);
        x.item(0, 3);
        x.answer(0, 3, 2);
        ended(x, "made since, answered", 3, 0, 333);
        shared(x, "made since, answered", 3, 333333, 333333, 333333);
        x.known(2, 1);
        ended(x, "KNOWN since", 2, 1, 1000);
        x.settle(0, 2);
        ended(x, "SETTLED since", 0, 2, 1000);
        x.settle(3, 1);
        ended(x, "made and SETTLED since", 3, 1, 1000);
        shared(x, "made and SETTLED since", 3, 0, 1000000, 0);
    }

    private void nextIs(HandsHall x, String why, int item, int hand, int help) {
        page.is("next(0): " + why, x.next(0), item);
        page.is("next(1): " + why, x.next(1), hand);
        page.is("next(2): " + why, x.next(2), help);
    }

    /** HAND 0 is right where 1 is so (916), HAND 1 where 0 is so too. */
    private void next() {
        page.reads("NEXT: the ITEM that is OPEN, neither KNOWN nor SETTLED, and the HAND, not PUT OUT, that has not "
            + "answered it, by which HELP is greatest: the sum over LABELS s of the greatest (over t) SHARE times "
            + "the HAND's number of t, s, by 1000, cut once, less the greatest SHARE; of several the first ITEM, "
            + "then HAND; none, if HELP is 0 or less.");
        HandsHall x = Due.of("a:K!0", 3, 2);
        Due.known(x, "10");
        Due.answers(x, 0, "1");
        Due.answers(x, 1, "10");
        nextIs(x, "no JOINING", STATE, STATE, STATE);
        x.join();
        // 500000 * 916 twice; by HAND 0: 500000 * 500 and 500000 * 916.
        nextIs(x, "HAND 1", 2, 1, 416000);
        x.item(0, 3);
        nextIs(x, "of several the first ITEM", 2, 1, 416000);
        x.out(1, true);
        nextIs(x, "HAND 1 is out", 2, 0, 208000);
        x.out(1, false);
        x.settle(3, 0);
        x.answer(1, 2, 1);
        nextIs(x, "HAND 1 has answered, ITEM 3 is SETTLED", 2, 0, 208000);
        x.join();
        x.item(0, 4);
        // ITEM 2 by HAND 0: 172473 * 500 and 827526 * 916, 844250 less 827526. ITEM 4 by HAND 1: 500000 * (801 + 950).
        shared(x, "answered by HAND 1", 2, 172473, 827526);
        nextIs(x, "a later ITEM, HELP is greater", 4, 1, 375500);
        x.settle(4, 0);
        nextIs(x, "it is SETTLED", 2, 0, 16724);
        x.answer(0, 2, 1);
        nextIs(x, "none is left", NONE, NONE, NONE);
        HandsHall two = Due.of("a:K!0", 3, 2);
        Due.known(two, "10");
        Due.answers(two, 0, "10");
        Due.answers(two, 1, "10");
        two.join();
        nextIs(two, "of several the first HAND", 2, 0, 416000);
        HandsHall none = Due.of("a:K!0", 1, 1);
        none.join();
        nextIs(none, "HELP is 0", NONE, NONE, NONE);
        HandsHall shut = Due.of("a:K!0;b:K<a!999");
        for (int i = 0; i < 3; i++) {
            shut.item(0, i);
        }
        shut.item(1, 2);
        shut.hand();
        Due.known(shut, "10");
        Due.answers(shut, 0, "100");
        shut.join();
        nextIs(shut, "ITEM 3 is not OPEN", NONE, NONE, NONE);
        shut.settle(2, 0);
        page.is("ITEM 3 is OPEN", shut.next(0), 3);
    }
}

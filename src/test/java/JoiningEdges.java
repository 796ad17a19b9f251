/** Edges of promises 17 to 21: numbers that are set, JOINING, SHARES, TABLES, NEXT. */
final class JoiningEdges {
    private static final int NONE = -6, UNKNOWN = -1, OUTSIDE = -2, STATE = -3;

    private final Book book;

    JoiningEdges(Book book) {
        this.book = book;
    }

    void all() {
        set();
        setSmooth();
        joinOfNothing();
        joinTurns();
        joinCuts();
        joinOfOneKindEach();
        joinSumOfNothing();
        joinSumOfOne();
        joinFull();
        share();
        shareRefused();
        table();
        tableRefused();
        next();
        nextOfOneLeft();
        nextHelp();
        nextHelpOfNothing();
        nextRefused();
    }

    private void set() {
        book.promise(17, "set", "0 SMOOTH, 1 NEAR, 2 MOST, 3 EACH, 4 BONUS, 5 FINE: which it was. OUTSIDE.");
        String[] says = {"SMOOTH (1 to 100; 10 at first)", "NEAR (0 to 100000; 100 at first)",
            "MOST of them (1 to 60; 30 at first)", "EACH for an answer that COUNTS (0 to 100; 2 at first)",
            "BONUS for each RIGHT one (0 to 100; 3)", "FINE (0 to 100; 1)"};
        int[][] edges = {{1, 100, 10}, {0, 100000, 100}, {1, 60, 30}, {0, 100, 2}, {0, 100, 3}, {0, 100, 1}};
        for (int which = 0; which < 6; which++) {
            book.says(says[which]);
            int w = which;
            int least = edges[which][0];
            int greatest = edges[which][1];
            HandsHall x = new HandsHall();
            book.is("set(" + which + ", " + least + ")", x.set(which, least), edges[which][2]);
            book.is("set(" + which + ", " + greatest + ")", x.set(which, greatest), least);
            book.is("set(" + which + ", " + greatest + ") again", x.set(which, greatest), greatest);
            for (int other = 0; other < 6; other++) {
                book.is("set(" + other + ", 1)", x.set(other, 1), other == which ? greatest : edges[other][2]);
            }
            for (int v : Book.beyond(least, greatest)) {
                book.refused(Scene.NEW, "set(" + which + ", " + v + ")", y -> y.set(w, v), OUTSIDE);
                book.refused(Scene.RICH, "set(" + which + ", " + v + ")", y -> y.set(w, v), OUTSIDE);
            }
        }
        for (int which : Book.beyond(0, 5)) {
            book.refused(Scene.RICH, "set(" + which + ", 1)", y -> y.set(which, 1), OUTSIDE);
            book.refused(Scene.RICH, "set(" + which + ", -1)", y -> y.set(which, -1), OUTSIDE);
        }
    }

    /** One answer, 1: SAID of 1 is 10000, 1000000 or 500000, and 1000000 more for what was said. */
    private void setSmooth() {
        book.says("SMOOTH (1 to 100; 10 at first) times 10000");
        int[][] want = {{1, 9, 990, 500}, {100, 333, 666, 500}, {50, 250, 750, 500}};
        for (int[] w : want) {
            HandsHall x = Due.of("a:K!0", 1, 1);
            x.answer(0, 0, 1);
            x.set(2, 1);
            x.set(0, w[0]);
            x.join();
            book.is("table(0, 2, 1, 0) with SMOOTH " + w[0], x.table(0, 2, 1, 0), w[1]);
            book.is("table(0, 2, 1, 1) with SMOOTH " + w[0], x.table(0, 2, 1, 1), w[2]);
            book.is("table(0, 2, 0, 1) with SMOOTH " + w[0], x.table(0, 2, 0, 1), w[3]);
        }
    }

    private void joinOfNothing() {
        book.promise(18, "join", "JOINING: TURNS that were done; less 100, if it does not REST.");
        HandsHall x = new HandsHall();
        book.is("join() of nothing", x.join(), 1);
        Due.say(x, "a:K!0;b:C3!0;c:C4!0");
        x.task();
        book.is("join() without ITEMS and HANDS", x.join(), 1);
        Due.hands(x, 2);
        book.is("join() without ITEMS", x.join(), 1);
        x = Due.of("a:K!0", 2, 0);
        book.is("join() without HANDS", x.join(), 1);
        book.is("SHARE without HANDS", x.share(1, 1), 500000);
        x = Due.of("a:C3!0", 2, 2);
        x.set(1, 0);
        x.set(2, 1);
        book.is("join() without answers, NEAR 0, MOST 1", x.join(), 1);
        book.is("SHARE without answers", x.share(0, 2), 333333);
        book.is("TABLE without answers", x.table(1, 3, 2, 2), 333);
        Due.answers(x, 0, "12");
        x.out(0, true);
        book.is("join() without answers that COUNT", x.join(), 1);
        book.is("SHARE without answers that COUNT", x.share(0, 1), 333333);
        book.is("TABLE without answers that COUNT", x.table(0, 3, 1, 1), 333);
        x = Due.of("a:C3!0", 2, 1);
        x.known(0, 2);
        x.settle(1, 0);
        Due.answers(x, 0, "12");
        x.set(1, 0);
        x.set(2, 1);
        book.is("join() of KNOWN, SETTLED ones alone", x.join(), 1);
        book.is("their SHARES stay", x.share(1, 2), 0);
        book.is("TABLE by a KNOWN one", x.table(0, 3, 2, 1), 846);
        book.is("TABLE by a SETTLED one", x.table(0, 3, 0, 2), 846);
    }

    /** One answer, 1: its SHARES are 353107, 481764, 497956, 499708, 500000, 500000 behind the TURNS. */
    private void joinTurns() {
        book.says("TURNS go on till in one no SHARE changes by more than NEAR");
        int[][] nearMostTurns = {{0, 30, 6}, {291, 30, 6}, {292, 30, 5}, {0, 6, 6}, {0, 5, -95}, {292, 5, 5},
            {292, 4, -96}, {291, 5, -95}, {0, 1, -99}, {100000, 1, -99}, {100000, 2, -98}, {100000, 3, 3},
            {100000, 60, 3}, {0, 60, 6}};
        for (int[] w : nearMostTurns) {
            HandsHall x = Due.of("a:K!0", 1, 1);
            x.answer(0, 0, 1);
            x.set(1, w[0]);
            x.set(2, w[1]);
            book.is("join() with NEAR " + w[0] + ", MOST " + w[1], x.join(), w[2]);
            book.is("join() again starts anew", x.join(), w[2]);
        }
        book.says("or MOST of them (1 to 60; 30 at first) are done");
        HandsHall x = Due.of("a:C3!0", 4, 1);
        x.known(2, 0);
        Due.answers(x, 0, "21.2");
        x.set(0, 1);
        x.set(1, 0);
        book.is("join() of what does not REST, MOST 30", x.join(), -70);
        x.set(2, 60);
        book.is("join() of what does not REST, MOST 60", x.join(), -40);
        x.set(2, 59);
        book.is("join() of what does not REST, MOST 59", x.join(), -41);
        x.set(2, 1);
        book.is("join() of what does not REST, MOST 1", x.join(), -99);
    }

    /**
     * Both say 0 to ITEM 2. HAND 0: 916 by 500; of HAND 1, who said the other LABEL of both KNOWN ones: 500 by 916.
     * 646892, 353107 behind HAND 0; then 323446000, 323446012 by 646892012. In the other order it is the other way.
     */
    private void joinCuts() {
        book.says("for each such answer, HANDS in order");
        for (int first = 0; first < 2; first++) {
            HandsHall x = Due.of("a:K!0", 3, 2);
            Due.known(x, "10");
            Due.answers(x, first, "..0");
            Due.answers(x, 1 - first, "010");
            x.set(2, 1);
            x.join();
            book.is("SHARE of 0, taught is HAND " + (1 - first), x.share(2, 0), first == 0 ? 499999 : 500000);
            book.is("SHARE of 1, taught is HAND " + (1 - first), x.share(2, 1), first == 0 ? 500000 : 499999);
            book.is("END", x.ofItem(2, 7), first == 0 ? 1 : 0);
            book.is("SURE, cut", x.ofItem(2, 8), 500);
        }
    }

    private void joinOfOneKindEach() {
        book.says("the sum of SHARES of t of ITEMS of so many LABELS that it answered with s");
        HandsHall x = Due.of("a:C2!0;b:C3!0;c:C4!0");
        for (int step = 0; step < 3; step++) {
            x.item(step, 0);
            x.known(step, 1);
        }
        x.hand();
        Due.answers(x, 0, "101");
        x.join();
        int[] right = {916, 76, 785};
        int[] other = {83, 846, 71};
        for (int n = 2; n <= 4; n++) {
            book.is("table(0, " + n + ", 1, 1)", x.table(0, n, 1, 1), right[n - 2]);
            book.is("table(0, " + n + ", 1, 0)", x.table(0, n, 1, 0), other[n - 2]);
            book.is("table(0, " + n + ", 0, 1)", x.table(0, n, 0, 1), 1000 / n);
        }
    }

    /**
     * Numbers cut to 0 may leave nothing. All say 0 to ITEM 23. HANDS 0 to 8 say just the other LABEL of KNOWN ones, so
     * that 0 comes down to nothing by 77 against 999; HAND 9 never says 0 where 1 is so.
     */
    private void joinSumOfNothing() {
        book.says("(all stay, if that sum is 0)");
        HandsHall x = Due.of("a:C2!0;b:K!0;c:O!0", 24, 10);
        Due.known(x, "00000000000011111111111");
        x.set(0, 1);
        x.set(2, 1);
        for (int hand = 0; hand < 9; hand++) {
            Due.answers(x, hand, "111111111111000000000000");
        }
        Due.answers(x, 9, "111111111111111111111110");
        book.is("join()", x.join(), -99);
        book.is("table(0, 2, 0, 0)", x.table(0, 2, 0, 0), 77);
        book.is("table(0, 2, 1, 0)", x.table(0, 2, 1, 0), 999);
        book.is("table(9, 2, 0, 0)", x.table(9, 2, 0, 0), 77);
        book.is("table(9, 2, 1, 0)", x.table(9, 2, 1, 0), 0);
        book.is("share(23, 0)", x.share(23, 0), 0);
        book.is("share(23, 1)", x.share(23, 1), 1000000);
    }

    /**
     * The least sum that is not 0. All say 0 to ITEM 23; the nine leave 0, 999998, 1 of it; the tenth never says 0
     * where 1 is so, and once of a thousand times where 2 is so: 1 by 1.
     */
    private void joinSumOfOne() {
        HandsHall x = Due.of("a:C3!0;b:C3!0;c:C3!0", 24, 10);
        Due.known(x, "00000000111111111122222");
        x.set(0, 1);
        x.set(2, 1);
        for (int hand = 0; hand < 9; hand++) {
            Due.answers(x, hand, "111111110000000000" + (hand == 6 ? "00111" : "01111") + "0");
        }
        Due.answers(x, 9, "111111111111111111111110");
        book.is("join()", x.join(), -99);
        int[] numbers = {111, 0, 1};
        int[] shares = {0, 0, 1000000};
        for (int t = 0; t < 3; t++) {
            book.is("table(9, 3, " + t + ", 0)", x.table(9, 3, t, 0), numbers[t]);
            book.is("share(23, " + t + ")", x.share(23, t), shares[t]);
        }
    }

    /** 24 ITEMS, 10 HANDS, 240 answers, beside the Model. */
    private void joinFull() {
        String[] texts = {"a:C4!0;b:C4!0;c:C4!0", "a:K!0;b:C3!0;c:C4!0"};
        for (int n = 0; n < 4; n++) {
            HandsHall x = new HandsHall();
            Model m = new Model();
            for (char sign : texts[n % 2].toCharArray()) {
                x.say(sign);
                m.say(sign);
            }
            x.task();
            m.task();
            for (int i = 0; i < 24; i++) {
                x.item(i / 10, i % 10);
                m.item(i / 10, i % 10);
                if (i % 5 == n) {
                    x.known(i, 1);
                    m.known(i, 1);
                }
            }
            for (int hand = 0; hand < 10; hand++) {
                x.hand();
                m.hand();
            }
            for (int k = 0; k < 240; k++) {
                int label = n < 2 ? 1 : (k / 24 * 7 + k % 24 * k % 11) % 2;
                x.answer(k / 24, k % 24, label);
                m.answer(k / 24, k % 24, label);
            }
            book.is("join() of 240 answers", x.join(), m.join());
            for (int i = 0; i < 24; i++) {
                for (int label = 0; label < 4; label++) {
                    book.is("share(" + i + ", " + label + ")", x.share(i, label), m.share(i, label));
                }
            }
            for (int hand = 0; hand < 10; hand++) {
                book.is("table(" + hand + ", 4, 1, 1)", x.table(hand, 4, 1, 1), m.table(hand, 4, 1, 1));
            }
        }
    }

    private void share() {
        book.promise(19, "share", "A SHARE by the latest JOINING. UNKNOWN.");
        book.says("else 1000000 by the number of LABELS, cut");
        HandsHall x = Due.of("a:C2!0;b:C3!0;c:C4!0");
        int[] alike = {500000, 333333, 250000};
        for (int step = 0; step < 3; step++) {
            x.item(step, 0);
            for (int label = 0; label < step + 2; label++) {
                book.is("share(" + step + ", " + label + ")", x.share(step, label), alike[step]);
            }
            book.is("share(" + step + ", " + (step + 2) + ")", x.share(step, step + 2), UNKNOWN);
        }
        book.says("of KNOWN, SETTLED ones 1000000 for theirs, 0 for others");
        x.known(0, 0);
        x.known(1, 2);
        x.settle(2, 1);
        int[][] given = {{1000000, 0}, {0, 0, 1000000}, {0, 1000000, 0, 0}};
        for (int round = 0; round < 2; round++) {
            for (int item = 0; item < 3; item++) {
                for (int label = 0; label < item + 2; label++) {
                    book.is("share(" + item + ", " + label + ")", x.share(item, label), given[item][label]);
                }
            }
            x.hand();
            x.answer(0, 0, 1);
            x.answer(0, 2, 3);
            x.join();
        }
        book.says("They are as by the latest JOINING (of ITEMS made since: as at first without answers)");
        x = Scene.RICH.make();
        int was = x.share(6, 1);
        book.is("SHARE by two answers", was > 0 ? 1 : 0, 1);
        x.back(0, 6);
        x.out(0, true);
        book.is("share(6, 1), no answers any more", x.share(6, 1), was);
        x.out(0, false);
        x.item(0, 9);
        x.answer(0, 10, 2);
        book.is("share(10, 2), made since and answered", x.share(10, 2), 333333);
        x.join();
        book.is("share(10, 2), joined", x.share(10, 2) > 333333 ? 1 : 0, 1);
    }

    private void shareRefused() {
        book.says("A SHARE by the latest JOINING. UNKNOWN.");
        book.refused(Scene.NEW, "share(0, 0)", x -> x.share(0, 0), UNKNOWN);
        for (int item : Book.beyond(0, 9)) {
            book.refused(Scene.RICH, "share(" + item + ", 0)", x -> x.share(item, 0), UNKNOWN);
        }
        for (int item : Book.beyond(0, 23)) {
            book.refused(Scene.FULL, "share(" + item + ", 0)", x -> x.share(item, 0), UNKNOWN);
        }
        for (int label : Book.beyond(0, 1)) {
            book.refused(Scene.RICH, "share(2, " + label + ")", x -> x.share(2, label), UNKNOWN);
        }
        for (int label : Book.beyond(0, 2)) {
            book.refused(Scene.RICH, "share(0, " + label + ")", x -> x.share(0, label), UNKNOWN);
        }
        for (int label : Book.beyond(0, 3)) {
            book.refused(Scene.RICH, "share(9, " + label + ")", x -> x.share(9, label), UNKNOWN);
        }
    }

    private void table() {
        book.promise(20, "table",
            "A TABLE's number by the latest JOINING (NONE: there was none since the HAND came).");
        HandsHall x = Scene.SINCE.make();
        int[] alike = {500, 333, 250};
        for (int n = 2; n <= 4; n++) {
            for (int t = 0; t < n; t++) {
                for (int s = 0; s < n; s++) {
                    String call = ", " + n + ", " + t + ", " + s + ")";
                    book.is("table(4" + call + ", it came since", x.table(4, n, t, s), NONE);
                    book.is("table(3" + call + ", it is out", x.table(3, n, t, s), alike[n - 2]);
                }
            }
        }
        book.is("table(0, 2, 1, 1), another", x.table(0, 2, 1, 1) > 500 ? 1 : 0, 1);
        x.join();
        book.is("table(4, 4, 3, 3), joined", x.table(4, 4, 3, 3), 250);
        HandsHall full = Scene.FULL.make();
        book.is("table(9, 4, 1, 1), the last HAND", full.table(9, 4, 1, 1) > 250 ? 1 : 0, 1);
        HandsHall none = Due.of("a:K!0", 1, 10);
        book.is("table(0, 2, 0, 0), no JOINING", none.table(0, 2, 0, 0), NONE);
        book.is("table(9, 4, 3, 3), no JOINING", none.table(9, 4, 3, 3), NONE);
        HandsHall before = new HandsHall();
        before.join();
        before.hand();
        book.is("table(0, 2, 0, 0), a JOINING ahead of all HANDS", before.table(0, 2, 0, 0), NONE);
        book.says("for a HAND that is PUT OUT: all alike");
        HandsHall out = Scene.RICH.make();
        out.out(0, true);
        book.is("table(0, 2, 1, 1), out since", out.table(0, 2, 1, 1) > 500 ? 1 : 0, 1);
        out.join();
        book.is("table(0, 2, 1, 1), joined", out.table(0, 2, 1, 1), 500);
        out.out(0, false);
        book.is("table(0, 2, 1, 1), back since", out.table(0, 2, 1, 1), 500);
    }

    private void tableRefused() {
        book.says("UNKNOWN; OUTSIDE: LABELS 2 to 4, t, s.");
        book.refused(Scene.NEW, "table(0, 2, 0, 0)", x -> x.table(0, 2, 0, 0), UNKNOWN);
        for (int hand : Book.beyond(0, 3)) {
            book.refused(Scene.RICH, "table(" + hand + ", 2, 0, 0)", x -> x.table(hand, 2, 0, 0), UNKNOWN);
            book.refused(Scene.RICH, "table(" + hand + ", 5, 0, 0): both fit", x -> x.table(hand, 5, 0, 0), UNKNOWN);
            book.refused(Scene.RICH, "table(" + hand + ", 2, 2, 0): both fit", x -> x.table(hand, 2, 2, 0), UNKNOWN);
            book.refused(Scene.RICH, "table(" + hand + ", 2, 0, -1): both fit", x -> x.table(hand, 2, 0, -1), UNKNOWN);
        }
        for (int hand : Book.beyond(0, 9)) {
            book.refused(Scene.FULL, "table(" + hand + ", 4, 0, 0)", x -> x.table(hand, 4, 0, 0), UNKNOWN);
        }
        for (int n : Book.beyond(2, 4)) {
            book.refused(Scene.RICH, "table(0, " + n + ", 0, 0)", x -> x.table(0, n, 0, 0), OUTSIDE);
            book.refused(Scene.SINCE, "table(4, " + n + ", 0, 0), it came since", x -> x.table(4, n, 0, 0), OUTSIDE);
        }
        for (int n = 2; n <= 4; n++) {
            int labels = n;
            for (int v : Book.beyond(0, n - 1)) {
                String call = "table(0, " + n + ", ";
                book.refused(Scene.RICH, call + v + ", 0)", x -> x.table(0, labels, v, 0), OUTSIDE);
                book.refused(Scene.RICH, call + "0, " + v + ")", x -> x.table(0, labels, 0, v), OUTSIDE);
                book.refused(Scene.SINCE, "table(4, " + n + ", " + v + ", " + v + "), it came since",
                    x -> x.table(4, labels, v, v), OUTSIDE);
            }
        }
    }

    /** ITEMS 0 and 1 are KNOWN; the HANDS are right in both: 916 of 1000, so that HELP is 2 * 458000 - 500000. */
    private static HandsHall taught(int items, int hands) {
        HandsHall x = Due.of("a:K!0;b:K!0;c:K!0", items, hands);
        Due.known(x, "10");
        for (int hand = 0; hand < hands; hand++) {
            Due.answers(x, hand, "10");
        }
        return x;
    }

    private void nextIs(HandsHall x, String why, int item, int hand, int help) {
        book.is("next(0): " + why, x.next(0), item);
        book.is("next(1): " + why, x.next(1), hand);
        book.is("next(2): " + why, x.next(2), help);
    }

    private void next() {
        book.promise(21, "next", "NEXT by the latest JOINING: ITEM (what = 0), HAND (1), HELP (2); NONE.");
        book.says("the ITEM that is OPEN, neither KNOWN nor SETTLED, and the HAND, not PUT OUT, that has not answered it");
        HandsHall x = new HandsHall();
        x.join();
        nextIs(x, "there is nothing", NONE, NONE, NONE);
        x = Due.of("a:K!0");
        x.hand();
        x.join();
        nextIs(x, "there are no ITEMS", NONE, NONE, NONE);
        x = Due.of("a:K!0", 3, 0);
        x.join();
        nextIs(x, "there are no HANDS", NONE, NONE, NONE);
        x = taught(2, 2);
        x.join();
        nextIs(x, "all are KNOWN", NONE, NONE, NONE);
        x.item(0, 2);
        nextIs(x, "one more", 2, 0, 416000);
        x.settle(2, 0);
        nextIs(x, "it is SETTLED", NONE, NONE, NONE);
        x.item(0, 3);
        x.out(0, true);
        nextIs(x, "HAND 0 is out", 3, 1, 416000);
        x.out(1, true);
        nextIs(x, "all are out", NONE, NONE, NONE);
        x.out(0, false);
        nextIs(x, "HAND 0 is back", 3, 0, 416000);
        x.answer(0, 3, 1);
        nextIs(x, "it has answered", NONE, NONE, NONE);
        x.out(1, false);
        nextIs(x, "HAND 1 has not", 3, 1, 416000);
        x.answer(1, 3, 1);
        nextIs(x, "all have answered", NONE, NONE, NONE);
        x.back(0, 3);
        nextIs(x, "HAND 0 took it back", 3, 0, 416000);
        HandsHall y = Due.of("a:K!0;b:K<a!501");
        y.item(0, 0);
        y.item(0, 1);
        y.hand();
        Due.known(y, "10");
        Due.answers(y, 0, "10");
        y.join();
        y.item(0, 2);
        y.settle(2, 1);
        y.item(1, 3);
        nextIs(y, "not OPEN", NONE, NONE, NONE);
        y.item(1, 2);
        nextIs(y, "OPEN", 4, 0, 416000);
    }

    private void nextOfOneLeft() {
        book.says("of several the first ITEM, then HAND");
        HandsHall x = taught(24, 10);
        x.join();
        nextIs(x, "all alike", 2, 0, 416000);
        x.answer(0, 2, 1);
        nextIs(x, "HAND 0 has answered", 2, 1, 416000);
        for (int hand = 1; hand < 10; hand++) {
            x.answer(hand, 2, 1);
        }
        nextIs(x, "all have answered", 3, 0, 416000);
        for (int item = 3; item < 23; item++) {
            x.settle(item, 0);
        }
        nextIs(x, "the last ITEM", 23, 0, 416000);
        for (int hand = 0; hand < 9; hand++) {
            x.out(hand, true);
        }
        nextIs(x, "the last ITEM, the last HAND", 23, 9, 416000);
        x.answer(9, 23, 0);
        nextIs(x, "none is left", NONE, NONE, NONE);
    }

    /** Three KNOWN ones of 3 LABELS, all right: 846 of each; thrice 333333 * 846 is 845999154, cut once 845999. */
    private void nextHelp() {
        book.says("by 1000, cut once, less the greatest SHARE");
        HandsHall x = Due.of("a:C3!0", 4, 1);
        Due.known(x, "012");
        Due.answers(x, 0, "012");
        x.join();
        nextIs(x, "cut once", 3, 0, 845999 - 333333);
        // SMOOTH 15; the greatest by s: 333 (untaught), 793, 877: 333333 * 2003 is 667665999, just below 667666.
        HandsHall cut = Due.of("a:C3!0", 4, 1);
        cut.set(0, 15);
        Due.known(cut, "100");
        Due.answers(cut, 0, "122");
        cut.join();
        nextIs(cut, "cut", 3, 0, 667665 - 333333);
        book.says("none, if HELP is 0 or less");
        // 2 * 500000 * 500 by 1000 is just 500000; 3 * 333333 * 333 by 1000 is less than 333333.
        for (String kind : new String[] {"K", "C3", "C4"}) {
            HandsHall y = Due.of("a:" + kind + "!0", 1, 2);
            y.join();
            nextIs(y, "HELP of " + kind + " is 0 or less", NONE, NONE, NONE);
        }
        HandsHall one = Due.of("a:C3!0", 4, 4);
        one.known(1, 2);
        one.set(1, 0);
        Due.answers(one, 0, "101.");
        Due.answers(one, 1, "0100");
        Due.answers(one, 2, ".212");
        Due.answers(one, 3, "0202");
        one.join();
        nextIs(one, "HELP is just 1", 0, 2, 1);
    }

    /** SHARES 0, 473543, 526455; HAND 3 never says 0 where 1 or 2 is so: nothing for 0, 798 and 907 for the others. */
    private void nextHelpOfNothing() {
        book.says("the sum over LABELS s of the greatest (over t) SHARE times the HAND's number of t, s");
        HandsHall x = Due.of("a:C3!0;b:C3!0;c:C3!0", 24, 4);
        Due.known(x, "00111111111122222222222");
        x.set(0, 1);
        x.set(2, 1);
        String[] answers = {"001112222222112222222222", "001111111222111222222221", "001111111122111111222222",
            "00111111112222222222221."};
        for (int hand = 0; hand < 4; hand++) {
            Due.answers(x, hand, answers[hand]);
        }
        x.join();
        // 377887314 + 477494685 is 855381999: one more would be 855382 thousands.
        nextIs(x, "nothing for one LABEL", 23, 3, 855381 - 526455);
    }

    private void nextRefused() {
        book.says("OUTSIDE; STATE: there was none since the last HAND came.");
        for (int what : Book.beyond(0, 2)) {
            book.refused(Scene.RICH, "next(" + what + ")", x -> x.next(what), OUTSIDE);
            book.refused(Scene.SINCE, "next(" + what + "): both fit", x -> x.next(what), OUTSIDE);
            book.refused(Scene.NEW, "next(" + what + "): both fit", x -> x.next(what), OUTSIDE);
        }
        for (int w = 0; w <= 2; w++) {
            int what = w;
            book.refused(Scene.SINCE, "next(" + what + ")", x -> x.next(what), STATE);
            book.refused(Scene.NEW, "next(" + what + ")", x -> x.next(what), STATE);
        }
        HandsHall x = Scene.SINCE.make();
        x.lean(0);
        book.is("next(0): lean is no JOINING", x.next(0), STATE);
        x.join();
        book.is("next(0): joined", x.next(0) == STATE ? 1 : 0, 0);
        x.out(4, true);
        book.is("next(0): out, not come", x.next(0) == STATE ? 1 : 0, 0);
    }
}

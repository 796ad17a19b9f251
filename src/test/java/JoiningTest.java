/** Promises 17 to 21: numbers that are set, JOINING, SHARES, TABLES, NEXT. The numbers due are worked out by hand. */
public final class JoiningTest {
    private static final Due DUE = new Due("JoiningTest");

    public static void main(String[] args) {
        set();
        oneAnswer();
        rests();
        threeAnswers();
        knownOnesTeach();
        putOut();
        byTheLatest();
        givenWithNoJoining();
        share();
        table();
        next();
        nextOfSeveral();
        DUE.end();
    }

    private static void set() {
        HandsHall x = new HandsHall();
        int[][] edges = {{1, 100, 10}, {0, 100000, 100}, {1, 60, 30}, {0, 100, 2}, {0, 100, 3}, {0, 100, 1}};
        for (int which = 0; which < 6; which++) {
            int[] e = edges[which];
            String call = "set(" + which + ", ";
            DUE.is(call + (e[0] - 1) + ")", x.set(which, e[0] - 1), -2);
            DUE.is(call + (e[1] + 1) + ")", x.set(which, e[1] + 1), -2);
            DUE.is(call + e[0] + ")", x.set(which, e[0]), e[2]);
            DUE.is(call + e[1] + ")", x.set(which, e[1]), e[0]);
            DUE.is(call + e[2] + ")", x.set(which, e[2]), e[1]);
        }
        DUE.is("set(-1, 1)", x.set(-1, 1), -2);
        DUE.is("set(6, 1)", x.set(6, 1), -2);
        DUE.is("set(MAX, MAX)", x.set(Integer.MAX_VALUE, Integer.MAX_VALUE), -2);
    }

    /**
     * One HAND says 1: SHARES 0, 1000000; SAID of 0: 100000, 100000; of 1: 100000, 1100000: TABLE 500 500, 83 916;
     * SHARES 250 by 708, 458 by 708. Then 453107 by 553107, 746892 by 846892: 819, 881; SHARES 819, 881 by 1700.
     */
    private static void oneAnswer() {
        HandsHall x = Due.of("a:K!0", 1, 1);
        x.answer(0, 0, 1);
        x.set(2, 1);
        DUE.is("join() of one TURN", x.join(), -99);
        DUE.is("share(0, 0)", x.share(0, 0), 353107);
        DUE.is("share(0, 1)", x.share(0, 1), 646892);
        DUE.is("table t 0 s 0", x.table(0, 2, 0, 0), 500);
        DUE.is("table t 0 s 1", x.table(0, 2, 0, 1), 500);
        DUE.is("table t 1 s 0", x.table(0, 2, 1, 0), 83);
        DUE.is("table t 1 s 1", x.table(0, 2, 1, 1), 916);
        DUE.is("table of 3", x.table(0, 3, 2, 1), 333);
        DUE.is("table of 4", x.table(0, 4, 3, 1), 250);
        DUE.is("END", x.ofItem(0, 7), 1);
        DUE.is("SURE", x.ofItem(0, 8), 646);
        x.set(2, 2);
        DUE.is("join() of two TURNS", x.join(), -98);
        DUE.is("table t 0 s 1", x.table(0, 2, 0, 1), 819);
        DUE.is("table t 1 s 1", x.table(0, 2, 1, 1), 881);
        DUE.is("share(0, 0)", x.share(0, 0), 481764);
        DUE.is("share(0, 1)", x.share(0, 1), 518235);
        x.set(0, 100);
        x.set(2, 1);
        // SAID of 1: 1000000, 2000000.
        DUE.is("join() with SMOOTH 100", x.join(), -99);
        DUE.is("table t 1 s 1", x.table(0, 2, 1, 1), 666);
        DUE.is("share(0, 1)", x.share(0, 1), 571183);
    }

    /** Its SHARES go on to 497956 502043, 499708 500291, 500000 500000 and rest there. */
    private static void rests() {
        HandsHall x = Due.of("a:K!0", 1, 1);
        x.answer(0, 0, 1);
        DUE.is("join()", x.join(), 6);
        DUE.is("share(0, 1)", x.share(0, 1), 500000);
        DUE.is("END: the first such", x.ofItem(0, 7), 0);
        DUE.is("SURE", x.ofItem(0, 8), 500);
        x.set(1, 0);
        DUE.is("join(): the sixth TURN changes nothing", x.join(), 6);
        x.set(1, 291);
        DUE.is("join(): 292 is more than 291", x.join(), 6);
        x.set(1, 292);
        DUE.is("join(): 292 is not more than 292", x.join(), 5);
        x.set(1, 291);
        x.set(2, 6);
        DUE.is("join(): it RESTS in the last TURN", x.join(), 6);
        x.set(2, 5);
        DUE.is("join(): MOST are done", x.join(), -95);
        x.set(2, 3);
        DUE.is("join(): MOST are done", x.join(), -97);
        DUE.is("share(0, 0)", x.share(0, 0), 497956);
        DUE.is("share(0, 1)", x.share(0, 1), 502043);
        x.set(1, 100000);
        x.set(2, 30);
        DUE.is("join(): the second TURN changes too much", x.join(), 3);
        DUE.is("share(0, 1)", x.share(0, 1), 502043);
    }

    /** 1, 1, 0: SHARES 333333, 666666; TABLES 812 by 884 for what was said; they cut at each answer. */
    private static void threeAnswers() {
        HandsHall x = Due.of("a:K!0", 1, 3);
        Due.answers(x, 0, "1");
        Due.answers(x, 1, "1");
        Due.answers(x, 2, "0");
        x.set(2, 1);
        DUE.is("join()", x.join(), -99);
        DUE.is("table(0, 2, 0, 1)", x.table(0, 2, 0, 1), 812);
        DUE.is("table(0, 2, 0, 0)", x.table(0, 2, 0, 0), 187);
        DUE.is("table(0, 2, 1, 1)", x.table(0, 2, 1, 1), 884);
        DUE.is("table(0, 2, 1, 0)", x.table(0, 2, 1, 0), 115);
        DUE.is("table(2, 2, 0, 0)", x.table(2, 2, 0, 0), 812);
        DUE.is("table(2, 2, 1, 0)", x.table(2, 2, 1, 0), 884);
        DUE.is("share(0, 0)", x.share(0, 0), 436625);
        DUE.is("share(0, 1)", x.share(0, 1), 563374);
    }

    /** KNOWN and SETTLED ITEMS keep their LABEL and fill TABLES; those of other numbers of LABELS do not. */
    private static void knownOnesTeach() {
        HandsHall x = Due.of("a:K!0;b:C3!0");
        x.item(0, 0);
        x.item(0, 1);
        x.item(0, 2);
        x.item(1, 0);
        x.hand();
        x.known(0, 1);
        Due.answers(x, 0, "0012");
        x.settle(1, 0);
        x.settle(3, 0);
        x.set(2, 1);
        // SAID of 0: 1100000, 100000; of 1: 1100000 by ITEM 0, 1100000 by ITEM 2.
        DUE.is("join()", x.join(), -99);
        DUE.is("share(0, 1)", x.share(0, 1), 1000000);
        DUE.is("share(0, 0)", x.share(0, 0), 0);
        DUE.is("share(1, 0)", x.share(1, 0), 1000000);
        DUE.is("share(3, 2)", x.share(3, 2), 0);
        DUE.is("END of 3", x.ofItem(3, 7), 0);
        DUE.is("table(0, 2, 0, 0)", x.table(0, 2, 0, 0), 916);
        DUE.is("table(0, 2, 0, 1)", x.table(0, 2, 0, 1), 83);
        DUE.is("table(0, 2, 1, 0)", x.table(0, 2, 1, 0), 500);
        DUE.is("table(0, 2, 1, 1)", x.table(0, 2, 1, 1), 500);
        DUE.is("table(0, 3, 0, 2)", x.table(0, 3, 0, 2), 846);
        DUE.is("table(0, 3, 0, 1)", x.table(0, 3, 0, 1), 76);
        DUE.is("table(0, 3, 2, 2)", x.table(0, 3, 2, 2), 333);
        DUE.is("share(2, 1)", x.share(2, 1), 857632);
        DUE.is("share(2, 0)", x.share(2, 0), 142367);
    }

    private static void putOut() {
        HandsHall x = Due.of("a:C3!0", 2, 2);
        Due.answers(x, 0, "11");
        Due.answers(x, 1, "2");
        x.out(0, true);
        x.set(2, 1);
        DUE.is("join()", x.join(), -99);
        DUE.is("of one PUT OUT all alike", x.table(0, 3, 1, 1), 333);
        DUE.is("of the other not", x.table(1, 3, 2, 2), 846);
        DUE.is("its answer COUNTS not", x.share(1, 1), 333333);
        DUE.is("SURE", x.ofItem(1, 8), 333);
        DUE.is("END by the other", x.ofItem(0, 7), 2);
        x.out(0, false);
        DUE.is("as by the latest JOINING", x.table(0, 3, 1, 1), 333);
        x.join();
        DUE.is("it COUNTS again", x.ofItem(1, 7), 1);
    }

    private static void byTheLatest() {
        HandsHall x = Due.of("a:K!0", 2, 1);
        x.set(2, 1);
        x.answer(0, 0, 1);
        x.join();
        x.back(0, 0);
        DUE.is("SHARE as by the latest JOINING", x.share(0, 1), 646892);
        x.answer(0, 1, 1);
        DUE.is("SHARE of what is answered since", x.share(1, 1), 500000);
        x.item(0, 2);
        x.answer(0, 2, 1);
        DUE.is("SHARE of what is made since", x.share(2, 1), 500000);
        x.settle(0, 0);
        DUE.is("SHARE of what is SETTLED since", x.share(0, 0), 1000000);
        DUE.is("SHARE of what is SETTLED since, another LABEL", x.share(0, 1), 0);
        DUE.is("END of what is SETTLED since", x.ofItem(0, 7), 0);
        DUE.is("SURE of what is SETTLED since", x.ofItem(0, 8), 1000);
        x.join();
        DUE.is("SHARE of what is SETTLED", x.share(0, 1), 0);
        x.settle(0, 1);
        DUE.is("END of what is SETTLED anew", x.ofItem(0, 7), 1);
        DUE.is("SHARE of what is SETTLED anew", x.share(0, 1), 1000000);
        DUE.is("SHARE of what is SETTLED anew, the LABEL ahead", x.share(0, 0), 0);
    }

    private static void givenWithNoJoining() {
        HandsHall x = Due.of("a:C3!0", 3, 1);
        x.answer(0, 0, 1);
        x.settle(0, 2);
        DUE.is("SHARE, SETTLED with no JOINING", x.share(0, 2), 1000000);
        DUE.is("SHARE, SETTLED with no JOINING, what was answered", x.share(0, 1), 0);
        x.known(1, 0);
        DUE.is("SHARE, KNOWN with no JOINING", x.share(1, 0), 1000000);
        DUE.is("SHARE, KNOWN with no JOINING, another LABEL", x.share(1, 1), 0);
        DUE.is("SHARE of one beside them", x.share(2, 1), 333333);
        x.join();
        x.known(2, 1);
        DUE.is("SHARE, KNOWN since a JOINING", x.share(2, 1), 1000000);
        DUE.is("SHARE, KNOWN since a JOINING, another LABEL", x.share(2, 0), 0);
        DUE.is("known(2, 0), refused", x.known(2, 0), -3);
        DUE.is("settle(2, 0), refused", x.settle(2, 0), -3);
        DUE.is("SHARE, refused calls change nothing", x.share(2, 0), 0);
    }

    private static void share() {
        HandsHall x = Due.of("a:C3!0", 1, 0);
        DUE.is("share(0, 0)", x.share(0, 0), 333333);
        DUE.is("share(0, 2)", x.share(0, 2), 333333);
        DUE.is("share(0, 3)", x.share(0, 3), -1);
        DUE.is("share(0, -1)", x.share(0, -1), -1);
        DUE.is("share(1, 0)", x.share(1, 0), -1);
        DUE.is("share(-1, 0)", x.share(-1, 0), -1);
    }

    private static void table() {
        HandsHall x = new HandsHall();
        x.hand();
        DUE.is("table(1, 9, 0, 0)", x.table(1, 9, 0, 0), -1);
        DUE.is("table(-1, 2, 0, 0)", x.table(-1, 2, 0, 0), -1);
        int[][] outside = {{1, 0, 0}, {5, 0, 0}, {2, 2, 0}, {2, 0, 2}, {3, 3, 0}, {3, 0, 3}, {4, 4, 0}, {4, 0, 4},
            {2, -1, 0}, {2, 0, -1}, {0, 0, 0}};
        for (int[] o : outside) {
            DUE.is("table outside", x.table(0, o[0], o[1], o[2]), -2);
        }
        DUE.is("table, no JOINING", x.table(0, 2, 0, 0), -6);
        DUE.is("join()", x.join(), 1);
        DUE.is("table", x.table(0, 2, 1, 0), 500);
        x.hand();
        DUE.is("table of one that came since", x.table(1, 2, 0, 0), -6);
        DUE.is("table of the other", x.table(0, 4, 3, 0), 250);
        x.join();
        DUE.is("table of both", x.table(1, 3, 0, 0), 333);
    }

    /** Both HANDS are right in both KNOWN ones: 916 of 1000, so HELP is twice 458000, less 500000. */
    private static void next() {
        HandsHall x = Due.of("a:K!0;b:O<a!600");
        x.item(0, 0);
        x.item(0, 1);
        Due.hands(x, 2);
        Due.known(x, "10");
        Due.answers(x, 0, "10");
        Due.answers(x, 1, "10");
        DUE.is("next(3)", x.next(3), -2);
        DUE.is("next(-1)", x.next(-1), -2);
        DUE.is("next(0): no JOINING", x.next(0), -3);
        x.join();
        DUE.is("next(0): all are KNOWN", x.next(0), -6);
        x.item(1, 5);
        DUE.is("next(0): not OPEN", x.next(0), -6);
        x.item(0, 5);
        x.item(0, 6);
        DUE.is("next(0): of ITEMS made since", x.next(0), 3);
        DUE.is("next(1)", x.next(1), 0);
        DUE.is("next(2)", x.next(2), 416000);
        x.answer(0, 3, 1);
        DUE.is("next(0): not answered by all", x.next(0), 3);
        DUE.is("next(1): one that has not", x.next(1), 1);
        x.out(1, true);
        DUE.is("next(0): by one that is in", x.next(0), 4);
        DUE.is("next(1): by one that is in", x.next(1), 0);
        x.out(1, false);
        x.settle(3, 1);
        DUE.is("next(0): OPEN since, not SETTLED", x.next(0), 2);
        x.hand();
        DUE.is("next(0): a HAND came", x.next(0), -3);
        x.join();
        DUE.is("next(1): not by a HAND that was not asked yet", x.next(1), 0);
        x.settle(2, 1);
        x.settle(4, 1);
        DUE.is("next(2): none", x.next(2), -6);
        HandsHall y = new HandsHall();
        y.join();
        DUE.is("next(0): a JOINING without HANDS", y.next(0), -6);
        HandsHall z = Due.of("a:K!0", 3, 1);
        Due.known(z, ".10");
        Due.answers(z, 0, ".10");
        z.join();
        DUE.is("next(0): ITEM 0", z.next(0), 0);
        z.out(0, true);
        for (int what = 0; what <= 2; what++) {
            DUE.is("next(" + what + "): all are out", z.next(what), -6);
        }
    }

    /** The greatest HELP, not the first: HAND 0 guesses, HAND 1 is right in both, HAND 2 as well. */
    private static void nextOfSeveral() {
        HandsHall x = Due.of("a:K!0", 5, 3);
        Due.known(x, "10");
        Due.answers(x, 0, "00");
        Due.answers(x, 1, "101");
        Due.answers(x, 2, "10");
        x.join();
        // ITEM 2 leans to 1 by HAND 1, so that an answer to 3 helps more; 4 is like 3, HAND 2 like HAND 1.
        DUE.is("next(0)", x.next(0), 3);
        DUE.is("next(1)", x.next(1), 2);
        DUE.is("next(2)", x.next(2), 416000);
    }
}

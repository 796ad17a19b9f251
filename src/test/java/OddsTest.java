/** Promises 22 to 28: RIGHT, GUESSING, COPYING, MISREAD, VERSIONS, BETTER, LEANS. */
public final class OddsTest {
    private static final Due DUE = new Due("OddsTest");
    private static final long UNKNOWN = -1000000000000000001L;
    private static final long OUTSIDE = -1000000000000000002L;

    public static void main(String[] args) {
        right();
        guessing();
        guessingAll();
        copying();
        copyingFourteen();
        misread();
        deal();
        better();
        betterForty();
        lean();
        DUE.end();
    }

    private static void fraction(String call, long upper, long lower, long wantUpper, long wantLower) {
        DUE.is(call + ", the upper", upper, wantUpper);
        DUE.is(call + ", the lower", lower, wantLower);
    }

    private static void guessed(HandsHall x, int hand, long upper, long lower) {
        fraction("guessing of " + hand, x.guessing(hand, 0), x.guessing(hand, 1), upper, lower);
    }

    private static void copied(HandsHall x, int a, int b, long upper, long lower) {
        fraction("copying of " + a + ", " + b, x.copying(a, b, 0), x.copying(a, b, 1), upper, lower);
    }

    private static void compared(HandsHall x, long upper, long lower) {
        fraction("better", x.better(0), x.better(1), upper, lower);
    }

    private static void right() {
        HandsHall x = Due.of("a:C3!0", 4, 2);
        Due.known(x, "20.1");
        Due.answers(x, 0, "2110");
        DUE.is("right(0, 0)", x.right(0, 0), 4);
        DUE.is("right(0, 1)", x.right(0, 1), 3);
        DUE.is("right(0, 2)", x.right(0, 2), 1);
        DUE.is("right(0, 3)", x.right(0, 3), 0);
        DUE.is("right(1, 0)", x.right(1, 0), 0);
        x.settle(2, 1);
        DUE.is("right(0, 2): SETTLED ones do not count", x.right(0, 2), 1);
        DUE.is("right(0, 1): SETTLED ones do not count", x.right(0, 1), 3);
        x.deal(1);
        DUE.is("right(0, 3): dealt", x.right(0, 3), 1);
        x.out(0, true);
        for (int what = 0; what < 3; what++) {
            DUE.is("right(0, " + what + ") out", x.right(0, what), 0);
        }
        DUE.is("right(0, 3) out", x.right(0, 3), 1);
        DUE.is("right(2, 4)", x.right(2, 4), -1);
        DUE.is("right(-1, 0)", x.right(-1, 0), -1);
        DUE.is("right(0, 4)", x.right(0, 4), -2);
        DUE.is("right(0, -1)", x.right(0, -1), -2);
    }

    private static void guessing() {
        HandsHall x = Due.of("a:C3!0;b:K!0;c:C4!0");
        x.item(0, 0);
        x.item(0, 1);
        x.item(1, 0);
        x.item(2, 0);
        x.item(2, 1);
        Due.hands(x, 6);
        Due.known(x, "1103");
        Due.answers(x, 0, "11..0");
        Due.answers(x, 1, "10");
        Due.answers(x, 2, "..03");
        Due.answers(x, 3, "..00");
        Due.answers(x, 4, "0002");
        guessed(x, 0, 1, 9);
        guessed(x, 1, 5, 9);
        guessed(x, 2, 1, 8);
        guessed(x, 3, 5, 8);
        // None right: 2/3 * 2/3 * 1/2 * 3/4 = 1/6.
        guessed(x, 4, 5, 6);
        guessed(x, 5, 1, 1);
        x.out(0, true);
        guessed(x, 0, 1, 1);
        DUE.is("guessing(6, 2)", x.guessing(6, 2), UNKNOWN);
        DUE.is("guessing(-1, 0)", x.guessing(-1, 0), UNKNOWN);
        DUE.is("guessing(0, 2)", x.guessing(0, 2), OUTSIDE);
        DUE.is("guessing(0, -1)", x.guessing(0, -1), OUTSIDE);
    }

    private static void guessingAll() {
        HandsHall x = Due.of("a:C4!0;b:C4!0;c:C4!0", 24, 3);
        Due.known(x, "000000000000000000000000");
        Due.answers(x, 0, "000000000000000000000000");
        Due.answers(x, 1, "000000000000000000000001");
        Due.answers(x, 2, "111111111111111111111110");
        guessed(x, 0, 1, 281474976710656L);
        guessed(x, 1, 73, 281474976710656L);
        guessed(x, 2, 281474976710656L - 282429536481L, 281474976710656L);
    }

    private static void copying() {
        HandsHall x = Due.of("a:C3!0;b:K!0");
        for (int i = 0; i < 3; i++) {
            x.item(0, i);
        }
        x.item(1, 0);
        x.item(1, 1);
        Due.hands(x, 3);
        Due.known(x, "1");
        Due.answers(x, 0, "1200");
        Due.answers(x, 1, "1211");
        // Two alike, of three of 3 LABELS and one of 2. None alike: 8 ways of 54; one: 3 * 4 + 8; two or more: 26.
        copied(x, 0, 1, 13, 27);
        copied(x, 1, 0, 13, 27);
        copied(x, 0, 2, 1, 1);
        x.answer(2, 2, 0);
        copied(x, 0, 2, 1, 3);
        copied(x, 2, 1, 1, 1);
        x.out(1, true);
        copied(x, 0, 1, 1, 1);
        copied(x, 1, 0, 1, 1);
        DUE.is("copying(0, 3, 2)", x.copying(0, 3, 2), UNKNOWN);
        DUE.is("copying(3, 0, 0)", x.copying(3, 0, 0), UNKNOWN);
        DUE.is("copying(-1, 0, 0)", x.copying(-1, 0, 0), UNKNOWN);
        DUE.is("copying(1, 1, 2)", x.copying(1, 1, 2), UNKNOWN);
        DUE.is("copying(0, 1, 2)", x.copying(0, 1, 2), OUTSIDE);
        DUE.is("copying(0, 1, -1)", x.copying(0, 1, -1), OUTSIDE);
    }

    private static void copyingFourteen() {
        HandsHall x = Due.of("a:K!0;b:K!0", 17, 2);
        Due.answers(x, 0, "0.101010101010101");
        Due.answers(x, 1, "00101010101010110");
        // 0 and 2 to 14 are the first 14 that both answered.
        copied(x, 0, 1, 1, 16384);
        x.back(1, 14);
        x.answer(1, 14, 0);
        copied(x, 0, 1, 15, 16384);
        x.back(0, 0);
        // 12 of the 14 from 2 to 15: 91 + 14 + 1 by 16384.
        copied(x, 0, 1, 53, 8192);
    }

    private static void misread() {
        HandsHall x = Due.of("a:C3!0", 5, 4);
        Due.known(x, "0012");
        x.show(0, 1);
        x.show(1, 6);
        x.show(3, 8);
        x.show(4, 15);
        Due.answers(x, 0, "12120");
        Due.answers(x, 1, "22120");
        Due.answers(x, 2, "01120");
        Due.answers(x, 3, "02.20");
        DUE.is("misread(1)", x.misread(1), 7);
        DUE.is("misread(2): unlike ones do not add", x.misread(2), 6);
        DUE.is("misread(3)", x.misread(3), 6);
        DUE.is("misread(4)", x.misread(4), 0);
        x.show(1, 4);
        DUE.is("misread(3), shown otherwise", x.misread(3), 4);
        x.out(3, true);
        DUE.is("misread(3), one out", x.misread(3), 0);
        HandsHall y = Due.of("a:K!0", 1, 10);
        y.known(0, 1);
        y.show(0, 9);
        for (int hand = 0; hand < 10; hand++) {
            DUE.is("misread(10), not all yet", y.misread(10), 0);
            y.answer(hand, 0, 0);
        }
        DUE.is("misread(10)", y.misread(10), 9);
        DUE.is("misread(0)", x.misread(0), -2);
        DUE.is("misread(11)", x.misread(11), -2);
        DUE.is("misread(-1)", x.misread(-1), -2);
    }

    /** 16807, 282475249, 1622650073, 984943658, 1144108930, 470211272, 101027544, 1457850878, 1458777923, 2007237709 */
    private static void deal() {
        HandsHall x = new HandsHall();
        DUE.is("deal(1) to none", x.deal(1), 0);
        Due.hands(x, 10);
        x.out(0, true);
        DUE.is("deal(1)", x.deal(1), 5);
        int[] want = {1, 1, 1, 0, 0, 0, 0, 0, 1, 1};
        for (int hand = 0; hand < 10; hand++) {
            DUE.is("VERSION of " + hand, x.right(hand, 3), want[hand]);
        }
        DUE.is("deal(0)", x.deal(0), -2);
        DUE.is("deal(1000001)", x.deal(1000001), -2);
        DUE.is("deal(-1)", x.deal(-1), -2);
        DUE.is("VERSION of 0 stays", x.right(0, 3), 1);
        // 2 * 16807 is even.
        x.deal(2);
        DUE.is("VERSION of 0 dealt anew", x.right(0, 3), 0);
        HandsHall y = new HandsHall();
        y.hand();
        DUE.is("deal(1000000)", y.deal(1000000), 16807000000L % 2147483647L % 2);
        y.hand();
        DUE.is("VERSION of one that came since", y.right(1, 3), 0);
    }

    private static void better() {
        HandsHall x = Due.of("a:K!0", 4, 4);
        Due.known(x, "011");
        Due.answers(x, 0, "0111");
        Due.answers(x, 1, "1");
        Due.answers(x, 3, "101");
        compared(x, 1, 1);
        // 1 1 1 0: of 7 answers 4 right, of VERSION 1 three of 4: (4 * 3 + 1) by 35.
        x.deal(1);
        compared(x, 13, 35);
        // All RIGHT ones of VERSION 1: with HAND 3's last away, of 6 three: 4 by 20.
        x.back(3, 2);
        compared(x, 1, 5);
        x.out(0, true);
        // Of 3 none is right.
        compared(x, 1, 1);
        DUE.is("better(2)", x.better(2), OUTSIDE);
        DUE.is("better(-1)", x.better(-1), OUTSIDE);
    }

    /** 50 answers: the last two HANDS, of VERSION 1 and right, are not looked at. */
    private static void betterForty() {
        HandsHall x = Due.of("a:K!0", 5, 10);
        Due.known(x, "00000");
        Due.answers(x, 0, "01111");
        for (int hand = 1; hand < 8; hand++) {
            Due.answers(x, hand, "11111");
        }
        Due.answers(x, 8, "00000");
        Due.answers(x, 9, "00000");
        x.deal(1);
        compared(x, 3, 8);
        x.out(7, true);
        // Now HAND 8's are: of 40 six right, all of them among the 20 of VERSION 1: 38760 by 3838380.
        compared(x, 34, 3367);
    }

    private static void lean() {
        HandsHall x = Due.of("a:K!0", 5, 3);
        Due.known(x, "10");
        Due.answers(x, 0, "1011");
        Due.answers(x, 1, "10.1");
        x.settle(3, 0);
        x.set(2, 4);
        DUE.is("lean(3)", x.lean(3), -1);
        DUE.is("lean(-1)", x.lean(-1), -1);
        DUE.is("lean(0): what it alone answered, not KNOWN, SETTLED, unanswered ones", x.lean(0), 4);
        DUE.is("lean(1)", x.lean(1), 0);
        DUE.is("lean(2)", x.lean(2), 0);
        DUE.is("no JOINING by lean", x.next(0), -3);
        DUE.is("no TABLE by lean", x.table(0, 2, 0, 0), -6);
        DUE.is("no SHARE by lean", x.share(2, 1), 500000);
        x.join();
        int was = x.share(2, 1);
        int table = x.table(0, 2, 1, 1);
        x.out(0, true);
        DUE.is("lean(0), out already", x.lean(0), 4);
        DUE.is("still out", x.out(0, true), 1);
        DUE.is("the latest JOINING stays: share", x.share(2, 1), was);
        DUE.is("the latest JOINING stays: table", x.table(0, 2, 1, 1), table);
        x.out(0, false);
        HandsHall y = Due.of("a:K!0", 3, 1);
        Due.known(y, ".10");
        Due.answers(y, 0, "110");
        DUE.is("lean(0), ITEM 0", y.lean(0), 1);
        DUE.is("lean(0) leaves it in", x.lean(0), 4);
        DUE.is("still in", x.out(0, false), 0);
    }
}

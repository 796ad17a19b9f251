import java.math.BigInteger;

/** The document's "Terms", parts 4 (odds) and 5 (coins). Odds are counted here, case by case. */
final class DocumentOdds {
    private static final int NONE = -6, OUTSIDE = -2;

    /** VERSIONS by deal(1). */
    private static final int[] BY_ONE = {1, 1, 1, 0, 0, 0, 0, 0, 1, 1};

    private final Reader page;

    DocumentOdds(Reader page) {
        this.page = page;
    }

    void all() {
        right();
        guessing();
        copying();
        misread();
        versions();
        better();
        leans();
        coins();
        sayings();
        plan();
    }

    /** ITEMS of two, three and four LABELS in turn. */
    private static HandsHall mixed(int items, int hands) {
        HandsHall x = Due.of("a:K!0;b:C3!0;c:C4!0");
        for (int i = 0; i < items; i++) {
            x.item(i % 3, i / 3);
        }
        Due.hands(x, hands);
        return x;
    }

    private void isBy(String call, long upper, long lower, long cases, long all) {
        long common = BigInteger.valueOf(cases).gcd(BigInteger.valueOf(all)).longValue();
        page.is(call + ", the upper", upper, cases / common);
        page.is(call + ", the lower", lower, all / common);
    }

    private void right() {
        page.reads("======== 4 RIGHT are answers that COUNT to KNOWN ITEMS, with their LABEL.");
        HandsHall x = Due.of("a:C3!0", 4, 1);
        Due.known(x, "02");
        x.settle(2, 1);
        Due.answers(x, 0, "0111");
        page.is("answers", x.right(0, 0), 4);
        page.is("to KNOWN ITEMS", x.right(0, 1), 2);
        page.is("RIGHT", x.right(0, 2), 1);
        x.out(0, true);
        page.is("RIGHT, out", x.right(0, 2), 0);
    }

    /** Of all draws of LABELS of the first n ITEMS of mixed, those in which so many or more are 0. */
    private static long[] draws(int n, int least) {
        long all = 1;
        for (int i = 0; i < n; i++) {
            all *= 2 + i % 3;
        }
        long cases = 0;
        for (long draw = 0; draw < all; draw++) {
            long rest = draw;
            int zeros = 0;
            for (int i = 0; i < n; i++) {
                zeros += rest % (2 + i % 3) == 0 ? 1 : 0;
                rest /= 2 + i % 3;
            }
            cases += zeros >= least ? 1 : 0;
        }
        return new long[] {cases, all};
    }

    private void guessing() {
        page.reads("GUESSING: the odds that one who draws LABELS by lot (each LABEL of an ITEM alike) is RIGHT in as "
            + "many of the KNOWN ITEMS that the HAND answered, or more.");
        for (int n = 0; n <= 8; n++) {
            for (int hits = 0; hits <= n; hits++) {
                HandsHall x = mixed(11, 1);
                for (int item = 0; item < 10; item++) {
                    x.known(item, 0);
                }
                for (int item = 0; item < n; item++) {
                    x.answer(0, item, item < hits ? 0 : 1);
                }
                x.answer(0, 10, 0);
                long[] due = draws(n, hits);
                isBy("guessing, " + hits + " of " + n, x.guessing(0, 0), x.guessing(0, 1), due[0], due[1]);
            }
        }
    }

    private void copying() {
        page.reads("COPYING: the odds that two HANDS of whom one draws by lot say the same in as many of the ITEMS "
            + "both answered, or more (answers that COUNT; 14 such ITEMS at most are looked at, the first ones).");
        for (int n = 0; n <= 8; n++) {
            for (int alike = 0; alike <= n; alike++) {
                HandsHall x = mixed(10, 3);
                for (int item = 0; item < n; item++) {
                    x.answer(0, item, 1);
                    x.answer(2, item, item < alike ? 1 : 0);
                }
                x.answer(0, 8, 0);
                x.answer(2, 9, 0);
                long[] due = draws(n, alike);
                isBy("copying, " + alike + " of " + n, x.copying(0, 2, 0), x.copying(0, 2, 1), due[0], due[1]);
                x.out(2, true);
                isBy("copying, one is out", x.copying(0, 2, 0), x.copying(0, 2, 1), 1, 1);
            }
        }
        HandsHall x = mixed(24, 2);
        for (int item = 23; item >= 0; item--) {
            x.answer(0, item, 0);
            x.answer(1, item, item < 14 ? 0 : 1);
        }
        // The first 14: five of two LABELS, five of three, four of four.
        isBy("copying, 24 ITEMS", x.copying(0, 1, 0), x.copying(0, 1, 1), 1, 32L * 243 * 256);
    }

    private void misread() {
        page.reads("MISREAD parts by n: a part such that for one KNOWN ITEM that shows it n HANDS or more said one "
            + "and the same other LABEL.");
        HandsHall x = Due.of("a:C3!0", 4, 4);
        Due.known(x, "012");
        int[] parts = {1, 2, 4, 8};
        for (int item = 0; item < 4; item++) {
            x.show(item, parts[item]);
        }
        Due.answers(x, 0, "1020");
        Due.answers(x, 1, "1220");
        Due.answers(x, 2, "1020");
        Due.answers(x, 3, "2220");
        page.is("misread(1)", x.misread(1), 3);
        page.is("misread(2): two said 0, two 2 of ITEM 1", x.misread(2), 3);
        page.is("misread(3)", x.misread(3), 1);
        page.is("misread(4): not one and the same", x.misread(4), 0);
        x.show(0, 9);
        page.is("misread(3), another part too", x.misread(3), 9);
        x.out(1, true);
        page.is("misread(3), one is out", x.misread(3), 0);
    }

    private void versions() {
        page.reads("VERSIONS: each HAND has VERSION 0 or 1 of the guide (0 at first); DEALT by a seed (1 to "
            + "1000000): for each HAND in order the seed becomes seed times 16807 left over by 2147483647: its "
            + "VERSION is that left over by 2.");
        HandsHall x = new HandsHall();
        Due.hands(x, 10);
        for (int hand = 0; hand < 10; hand++) {
            page.is("VERSION of " + hand + " at first", x.right(hand, 3), 0);
        }
        // 16807, 282475249, 1622650073, 984943658, 1144108930, 470211272, 101027544, 1457850878, 1458777923,
        // 2007237709.
        page.is("deal(1)", x.deal(1), 5);
        for (int hand = 0; hand < 10; hand++) {
            page.is("VERSION of " + hand + " by 1", x.right(hand, 3), BY_ONE[hand]);
        }
        page.is("deal(0)", x.deal(0), OUTSIDE);
        page.is("deal(1000001)", x.deal(1000001), OUTSIDE);
        // 1000000 * 16807 is 7 * 2147483647 + 1774614471.
        page.is("deal(1000000)", x.deal(1000000) >= 1);
        page.is("VERSION of 0 by 1000000", x.right(0, 3), 1);
    }

    /** Of all ways to deal so many RIGHT ones to the answers, those in which the first ones have so many or more. */
    private static long[] deals(int all, int rights, int ones, int least) {
        long cases = 0;
        long ways = 0;
        for (int bits = 0; bits < 1 << all; bits++) {
            if (Integer.bitCount(bits) == rights) {
                ways++;
                cases += Integer.bitCount(bits & (1 << ones) - 1) >= least ? 1 : 0;
            }
        }
        return new long[] {cases, ways};
    }

    private void better() {
        page.reads("BETTER: the odds that, RIGHT ones being dealt by chance to all answers to KNOWN ITEMS (that "
            + "COUNT), those of VERSION 1 have as many RIGHT, or more (40 of these answers at most are looked at, "
            + "the first ones by HANDS, then ITEMS).");
        // HAND 2 is of VERSION 1, HAND 3 of VERSION 0.
        for (int hits = 0; hits <= 5; hits++) {
            for (int others = 0; others <= 4; others++) {
                HandsHall x = Due.of("a:C3!0", 7, 5);
                Due.known(x, "000000");
                x.deal(1);
                for (int item = 0; item < 5; item++) {
                    x.answer(2, item, item < hits ? 0 : 1);
                }
                for (int item = 0; item < 4; item++) {
                    x.answer(3, item, item < others ? 0 : 2);
                }
                x.answer(3, 6, 0);
                x.answer(4, 5, 0);
                x.out(4, true);
                long[] due = deals(9, hits + others, 5, hits);
                isBy("better, " + hits + " and " + others, x.better(0), x.better(1), due[0], due[1]);
            }
        }
        HandsHall x = Due.of("a:K!0", 10, 10);
        Due.known(x, "0000000000");
        x.deal(1);
        String zeros = "0000000000";
        Due.answers(x, 2, zeros);
        for (int hand = 3; hand < 6; hand++) {
            Due.answers(x, hand, "1111111111");
        }
        Due.answers(x, 9, zeros);
        // 40 answers, 10 of VERSION 1, which have all 10 RIGHT ones: 1 by C(40, 10).
        isBy("better, 50 answers", x.better(0), x.better(1), 1, 847660528L);
    }

    private void leans() {
        page.reads("LEANS on a HAND: ITEMS whose END, by a JOINING of its own with that HAND PUT OUT, is another one "
            + "than by one with it in.");
        HandsHall x = Due.of("a:C3!0", 4, 2);
        Due.known(x, "12");
        Due.answers(x, 0, "1221");
        Due.answers(x, 1, "1220");
        page.is("lean(0): ITEM 3 comes down to 0 without it", x.lean(0), endsWithout(x, 0));
        page.is("lean(1)", x.lean(1), endsWithout(x, 1));
        HandsHall y = Due.of("a:C3!0", 4, 1);
        Due.known(y, "12");
        Due.answers(y, 0, "1221");
        page.is("lean(0): both lean on it", y.lean(0), 4 + 8);
        y.out(0, true);
        page.is("lean(0), out", y.lean(0), 4 + 8);
        page.is("it stays out", y.out(0, false), 1);
    }

    /** Which ENDS are others by a JOINING with a HAND out and one with it in; it stays in. */
    private static int endsWithout(HandsHall x, int hand) {
        x.join();
        int[] in = new int[x.told(2)];
        for (int item = 0; item < in.length; item++) {
            in[item] = x.ofItem(item, 7);
        }
        x.out(hand, true);
        x.join();
        int bits = 0;
        for (int item = 0; item < in.length; item++) {
            bits |= x.ofItem(item, 7) != in[item] ? 1 << item : 0;
        }
        x.out(hand, false);
        return bits;
    }

    // ---- 5 coins

    private void coins() {
        page.reads("======== 5 COINS: EACH for an answer that COUNTS (0 to 100; 2 at first), BONUS for each RIGHT "
            + "one (0 to 100; 3), FINE (0 to 100; 1) for each to a KNOWN ITEM that is not RIGHT; what is paid is not "
            + "below 0.");
        HandsHall x = Due.of("a:K!0", 6, 1);
        Due.known(x, "11111");
        Due.answers(x, 0, "110001");
        page.is("coins(0)", x.coins(0), 6 * 2 + 2 * 3 - 3);
        int[][] numbers = {{0, 0, 0, 0}, {100, 0, 0, 600}, {0, 100, 0, 200}, {1, 0, 2, 0}, {1, 1, 2, 2}, {0, 0, 100, 0},
            {100, 100, 100, 500}};
        for (int[] n : numbers) {
            for (int which = 3; which <= 5; which++) {
                x.set(which, n[which - 3]);
            }
            page.is("coins(0) with " + n[0] + ", " + n[1] + ", " + n[2], x.coins(0), n[3]);
        }
        for (int which = 3; which <= 5; which++) {
            page.is("set(" + which + ", 101)", x.set(which, 101), OUTSIDE);
            page.is("set(" + which + ", -1)", x.set(which, -1), OUTSIDE);
        }
        x.out(0, true);
        page.is("coins(0), out", x.coins(0), 0);
    }

    private void believed(HandsHall x, String why, int belief, int saying, int more) {
        page.is("belief(0): " + why, x.belief(0), belief);
        page.is("belief(1): " + why, x.belief(1), saying);
        page.is("belief(2): " + why, x.belief(2), more);
    }

    private void sayings() {
        page.reads("SAYING: a HAND says how sure it is (0 to 20, twentieths): paid so much if it is right, so much "
            + "if it is not (-1000 to 1000; 0 at first).");
        HandsHall x = new HandsHall();
        believed(x, "0 at first: all bring as much", NONE, NONE, NONE);
        int[][] not = {{-1, 0, 0}, {21, 0, 0}, {0, 1001, 0}, {0, -1001, 0}, {0, 0, 1001}, {0, 0, -1001}};
        for (int[] n : not) {
            page.is("pays(" + n[0] + ", " + n[1] + ", " + n[2] + ")", x.pays(n[0], n[1], n[2]), OUTSIDE);
        }
        page.is("pays(20, 1000, -1000)", x.pays(20, 1000, -1000), 1);
        page.is("pays(0, -1000, 1000)", x.pays(0, -1000, 1000), 1);
        page.reads("With a BELIEF (0 to 20 twentieths that it is right) a SAYING brings BELIEF times what is paid if "
            + "right, and 20 less BELIEF times the other.");
        // With BELIEF 1, SAYING 0 brings -1000 + 19 * 1000 more than 0.
        believed(x, "SAYING 0", 1, 0, 18000);
        x.pays(0, 0, 0);
        x.pays(20, 3, -2);
        // 3 * BELIEF - 2 * (20 - BELIEF) is above 0 from BELIEF 9 on: 27 - 22.
        believed(x, "SAYING 20", 9, 20, 5);
        page.reads("TRUE: for no BELIEF any SAYING brings more than to say just that; else the first BELIEF, and the "
            + "SAYING that brings most there, the first such.");
        HandsHall y = new HandsHall();
        for (int s = 0; s <= 20; s++) {
            y.pays(s, s * (40 - s), 400 - s * s);
        }
        believed(y, "TRUE", NONE, NONE, NONE);
        y.pays(12, 400, 256);
        // To say b just as it is brings 20 b b - 400 b + 8000, SAYING 12 now 5120 + 144 b: 6080 and 6272 with BELIEF 8.
        believed(y, "12 is paid too much", 8, 12, 192);
        y.pays(3, 400, 256);
        // With BELIEF 3, SAYINGS 2 and 4 bring 6960 each, SAYING 3 now 5552.
        believed(y, "3 is paid too little: 2 is the first such", 3, 2, 1408);
    }

    /** Of all outcomes of n answers, the odds by 100^n of those with more than half right. */
    private static BigInteger greaterPart(int q, int n) {
        BigInteger sum = BigInteger.ZERO;
        for (int bits = 0; bits < 1 << n; bits++) {
            int right = Integer.bitCount(bits);
            if (2 * right > n) {
                sum = sum.add(BigInteger.valueOf(q).pow(right).multiply(BigInteger.valueOf(100 - q).pow(n - right)));
            }
        }
        return sum;
    }

    private void plan() {
        page.reads("PLAN: answers of like HANDS, each right in q hundredths (0 to 100), two LABELS: the least odd "
            + "number (1 to 9) of answers the greater part of which is right with odds of s hundredths (0 to 100) or "
            + "more; none.");
        for (int q = 0; q <= 100; q += 5) {
            HandsHall x = new HandsHall();
            BigInteger[] parts = new BigInteger[10];
            for (int n = 1; n <= 9; n += 2) {
                parts[n] = greaterPart(q, n).multiply(BigInteger.valueOf(100));
            }
            for (int s = 0; s <= 100; s++) {
                int due = NONE;
                for (int n = 9; n >= 1; n -= 2) {
                    BigInteger enough = BigInteger.valueOf(s).multiply(BigInteger.valueOf(100).pow(n));
                    due = parts[n].compareTo(enough) >= 0 ? n : due;
                }
                page.is("plan(" + q + ", " + s + ")", x.plan(q, s), due);
            }
        }
    }
}

/** Promises 29 to 33: COINS, what a SAYING is paid, BELIEF, PLAN, told. */
public final class CoinsTest {
    private static final Due DUE = new Due("CoinsTest");

    public static void main(String[] args) {
        coins();
        pays();
        belief();
        plan();
        told();
        DUE.end();
    }

    private static void coins() {
        HandsHall x = Due.of("a:K!0", 4, 2);
        Due.known(x, "101");
        Due.answers(x, 0, "1110");
        DUE.is("coins(0)", x.coins(0), 4 * 2 + 2 * 3 - 1);
        DUE.is("coins(1)", x.coins(1), 0);
        DUE.is("coins(2)", x.coins(2), -1);
        DUE.is("coins(-1)", x.coins(-1), -1);
        x.set(3, 100);
        DUE.is("coins(0), EACH 100", x.coins(0), 405);
        x.set(4, 0);
        DUE.is("coins(0), no BONUS", x.coins(0), 399);
        x.set(5, 100);
        DUE.is("coins(0), FINE 100", x.coins(0), 300);
        x.set(3, 25);
        DUE.is("coins(0), just 0", x.coins(0), 0);
        x.set(3, 24);
        DUE.is("coins(0), not below 0", x.coins(0), 0);
        x.set(4, 3);
        DUE.is("coins(0), the BONUS is counted ahead of that", x.coins(0), 2);
        x.out(0, true);
        DUE.is("coins(0), out", x.coins(0), 0);
    }

    private static void pays() {
        HandsHall x = new HandsHall();
        int[][] outside = {{-1, 0, 0}, {21, 0, 0}, {0, 1001, 0}, {0, -1001, 0}, {0, 0, 1001}, {0, 0, -1001},
            {Integer.MIN_VALUE, 0, 0}, {0, Integer.MIN_VALUE, 0}, {0, 0, Integer.MAX_VALUE}};
        for (int[] o : outside) {
            DUE.is("pays outside", x.pays(o[0], o[1], o[2]), -2);
        }
        DUE.is("nothing is paid", x.belief(0), -6);
        DUE.is("pays(0, -1000, 1000)", x.pays(0, -1000, 1000), 1);
        DUE.is("pays(20, 1000, -1000)", x.pays(20, 1000, -1000), 1);
        // With BELIEF 1: 1 * -1000 + 19 * 1000 by SAYING 0, nothing by its own.
        DUE.is("belief(0)", x.belief(0), 1);
        DUE.is("belief(1)", x.belief(1), 0);
        DUE.is("belief(2)", x.belief(2), 18000);
        DUE.is("pays(0, 0, 0)", x.pays(0, 0, 0), 1);
        // The first BELIEF of which 20 brings more than 0: 11 * 1000 - 9 * 1000.
        DUE.is("belief(0)", x.belief(0), 11);
        DUE.is("belief(1)", x.belief(1), 20);
        DUE.is("belief(2)", x.belief(2), 2000);
    }

    private static void belief() {
        HandsHall x = new HandsHall();
        DUE.is("belief(3)", x.belief(3), -2);
        DUE.is("belief(-1)", x.belief(-1), -2);
        for (int what = 0; what <= 2; what++) {
            DUE.is("belief(" + what + "): as much is not more", x.belief(what), -6);
        }
        x.pays(5, 1, 0);
        DUE.is("belief(0)", x.belief(0), 1);
        DUE.is("belief(1)", x.belief(1), 5);
        DUE.is("belief(2)", x.belief(2), 1);
        x.pays(3, 1, 0);
        DUE.is("belief(1): the first such", x.belief(1), 3);
        x.pays(0, 0, -7);
        DUE.is("belief(0): the first", x.belief(0), 0);
        DUE.is("belief(1): the first that brings most", x.belief(1), 1);
        DUE.is("belief(2)", x.belief(2), 140);
        HandsHall y = new HandsHall();
        for (int s = 0; s <= 20; s++) {
            y.pays(s, s * (40 - s), 400 - s * s);
        }
        DUE.is("belief(0): TRUE", y.belief(0), -6);
        y.pays(20, 399, 0);
        DUE.is("belief(0): as much by 19 as by 20", y.belief(0), -6);
        y.pays(20, 398, 0);
        DUE.is("belief(0): more by 19", y.belief(0), 20);
        DUE.is("belief(1): more by 19", y.belief(1), 19);
        DUE.is("belief(2): more by 19", y.belief(2), 20);
        DUE.is("belief(3): TRUE or not", y.belief(3), -2);
    }

    private static void plan() {
        HandsHall x = new HandsHall();
        int[][] want = {{100, 100, 1}, {0, 0, 1}, {0, 1, -6}, {60, 60, 1}, {60, 61, 3}, {60, 64, 3}, {60, 65, 5},
            {60, 68, 5}, {60, 69, 7}, {60, 71, 7}, {60, 72, 9}, {60, 73, 9}, {60, 74, -6}, {99, 100, -6}, {40, 40, 1},
            {40, 41, -6}, {90, 97, 3}, {90, 98, 5}, {99, 99, 1}, {50, 50, 1}, {50, 51, -6},
            {101, 0, -2}, {-1, 0, -2}, {0, 101, -2}, {0, -1, -2}, {Integer.MAX_VALUE, 1, -2}};
        for (int[] w : want) {
            DUE.is("plan(" + w[0] + ", " + w[1] + ")", x.plan(w[0], w[1]), w[2]);
        }
    }

    private static void told() {
        HandsHall x = Due.of("a:K!0;b:K<a!501");
        x.item(0, 0);
        x.item(1, 0);
        x.item(1, 1);
        x.item(0, 2);
        Due.hands(x, 5);
        x.answer(0, 0, 0);
        x.answer(1, 0, 0);
        x.answer(1, 3, 0);
        Due.say(x, "abc");
        int[] want = {3, 2, 4, 5, 3, 9};
        for (int what = 0; what <= 5; what++) {
            DUE.is("told(" + what + ")", x.told(what), want[what]);
        }
        x.out(1, true);
        DUE.is("told(4), one out", x.told(4), 1);
        x.settle(0, 1);
        DUE.is("told(5), SETTLED", x.told(5), 11);
        DUE.is("told(6)", x.told(6), -2);
        DUE.is("told(-1)", x.told(-1), -2);
    }
}

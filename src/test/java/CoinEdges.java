import java.util.function.ToLongFunction;

/** Edges of promises 29 to 33: COINS, what a SAYING is paid, BELIEF, PLAN, told. */
final class CoinEdges {
    private static final int NONE = -6, UNKNOWN = -1, OUTSIDE = -2;

    private final Book book;

    CoinEdges(Book book) {
        this.book = book;
    }

    void all() {
        coins();
        pays();
        paysRefused();
        belief();
        plan();
        told();
        toldRefused();
    }

    private static void numbers(HandsHall x, int each, int bonus, int fine) {
        x.set(3, each);
        x.set(4, bonus);
        x.set(5, fine);
    }

    private void coins() {
        book.promise(29, "coins", "COINS of a HAND. UNKNOWN.");
        book.says("what is paid is not below 0");
        HandsHall x = Due.of("a:K!0;b:K!0;c:K!0", 24, 4);
        book.is("coins(0) without answers", x.coins(0), 0);
        for (int item = 0; item < 23; item++) {
            x.known(item, 1);
            x.answer(0, item, 1);
            x.answer(1, item, 0);
        }
        x.answer(2, 23, 1);
        Due.answers(x, 3, "1000");
        book.is("coins(0), 23 RIGHT", x.coins(0), 23 * 5);
        book.is("coins(1), 23 not RIGHT", x.coins(1), 23);
        book.is("coins(2), one to an ITEM that is not KNOWN", x.coins(2), 2);
        numbers(x, 0, 0, 0);
        book.is("coins(0), nothing is paid", x.coins(0), 0);
        book.is("coins(1), nothing is paid", x.coins(1), 0);
        numbers(x, 100, 100, 100);
        book.is("coins(0), the greatest", x.coins(0), 23 * 200);
        book.is("coins(1), just 0", x.coins(1), 0);
        book.is("coins(2), EACH", x.coins(2), 100);
        numbers(x, 0, 0, 100);
        book.is("coins(1), far below 0", x.coins(1), 0);
        // 4 answers, 1 RIGHT, 3 not.
        numbers(x, 1, 5, 3);
        book.is("coins(3), 4 + 5 - 9: just 0", x.coins(3), 0);
        numbers(x, 1, 6, 3);
        book.is("coins(3), one above 0", x.coins(3), 1);
        numbers(x, 1, 4, 3);
        book.is("coins(3), one below 0", x.coins(3), 0);
        numbers(x, 1, 1, 1);
        x.out(3, true);
        book.is("coins(3), out", x.coins(3), 0);
        x.out(3, false);
        x.settle(23, 0);
        book.is("coins(2), not RIGHT by what is SETTLED", x.coins(2), 1);
        HandsHall all = Due.of("a:K!0;b:K!0;c:K!0", 24, 10);
        numbers(all, 100, 100, 0);
        for (int item = 0; item < 24; item++) {
            all.known(item, 0);
            all.answer(9, item, 0);
        }
        book.is("coins(9), 24 RIGHT", all.coins(9), 4800);
        book.refused(Scene.NEW, "coins(0)", y -> y.coins(0), UNKNOWN);
        for (int hand : Book.beyond(0, 3)) {
            book.refused(Scene.RICH, "coins(" + hand + ")", y -> y.coins(hand), UNKNOWN);
        }
        for (int hand : Book.beyond(0, 9)) {
            book.refused(Scene.FULL, "coins(" + hand + ")", y -> y.coins(hand), UNKNOWN);
        }
    }

    private void believed(HandsHall x, String why, int belief, int saying, int more) {
        book.is("belief(0): " + why, x.belief(0), belief);
        book.is("belief(1): " + why, x.belief(1), saying);
        book.is("belief(2): " + why, x.belief(2), more);
    }

    private void pays() {
        book.promise(30, "pays", "What a SAYING is paid: 1. OUTSIDE.");
        book.says("a HAND says how sure it is (0 to 20, twentieths): paid so much if it is right, so much if it is not "
            + "(-1000 to 1000; 0 at first)");
        for (int s = 0; s <= 20; s++) {
            HandsHall x = new HandsHall();
            believed(x, "0 at first", NONE, NONE, NONE);
            for (int right : new int[] {-1000, 1000}) {
                for (int wrong : new int[] {-1000, 1000}) {
                    book.is("pays(" + s + ", " + right + ", " + wrong + ")", x.pays(s, right, wrong), 1);
                }
            }
            // Now it is paid 1000 both ways, and all others nothing: it brings 20000 with any BELIEF.
            believed(x, s + " is paid 1000", s == 0 ? 1 : 0, s, 20000);
            x.pays(s, 1000, -1000);
            // It brings 2000 * BELIEF - 20000: less than nothing up to BELIEF 9, more than that from 11 on.
            String why = s + " is paid 1000 if right, -1000 if not";
            if (s < 10) {
                believed(x, why, s, s == 0 ? 1 : 0, 20000 - 2000 * s);
            } else {
                believed(x, why, s == 11 ? 12 : 11, s, s == 11 ? 4000 : 2000);
            }
        }
    }

    private void paysRefused() {
        for (int s : Book.beyond(0, 20)) {
            unpaid("pays(" + s + ", 7, 8)", x -> x.pays(s, 7, 8));
            unpaid("pays(" + s + ", 1001, 8)", x -> x.pays(s, 1001, 8));
        }
        for (int v : Book.beyond(-1000, 1000)) {
            for (int s : new int[] {0, 3, 20}) {
                unpaid("pays(" + s + ", " + v + ", 0)", x -> x.pays(s, v, 0));
                unpaid("pays(" + s + ", 0, " + v + ")", x -> x.pays(s, 0, v));
                unpaid("pays(" + s + ", " + v + ", " + v + ")", x -> x.pays(s, v, v));
            }
        }
    }

    /** It is refused, and each SAYING is paid as before: seen by what it brings where the others are paid otherwise. */
    private void unpaid(String call, ToLongFunction<HandsHall> made) {
        book.refused(Scene.NEW, call, made, OUTSIDE);
        book.refused(Scene.RICH, call, made, OUTSIDE);
        for (int saying = 0; saying <= 20; saying++) {
            for (int wrong : new int[] {-1000, 1000}) {
                HandsHall x = Scene.RICH.make();
                made.applyAsLong(x);
                HandsHall y = Scene.RICH.make();
                for (int other = 0; other <= 20; other++) {
                    if (other != saying) {
                        x.pays(other, -1000, wrong);
                        y.pays(other, -1000, wrong);
                    }
                }
                believed(x, "what " + saying + " is paid behind " + call, y.belief(0), y.belief(1), y.belief(2));
            }
        }
    }

    private void belief() {
        book.promise(31, "belief",
            "TRUE: NONE; else the BELIEF (what = 0), the SAYING (1), by how much it brings more (2). OUTSIDE.");
        book.says("for no BELIEF any SAYING brings more than to say just that");
        HandsHall x = new HandsHall();
        believed(x, "all bring as much", NONE, NONE, NONE);
        book.says("the first BELIEF, and the SAYING that brings most there, the first such");
        x.pays(20, 1, 0);
        believed(x, "one coin by 20 with BELIEF 1", 1, 20, 1);
        x.pays(19, 1, 0);
        believed(x, "19 is the first such", 1, 19, 1);
        x.pays(20, 2, 0);
        believed(x, "20 brings most", 1, 20, 2);
        x.pays(0, -1000, -1000);
        believed(x, "with BELIEF 0: 1 is the first that brings 0", 0, 1, 20000);
        x.pays(20, -1000, 1000);
        believed(x, "the greatest that can be", 0, 20, 40000);
        HandsHall last = new HandsHall();
        for (int s = 0; s <= 20; s++) {
            last.pays(s, s * (40 - s), 400 - s * s);
        }
        believed(last, "TRUE", NONE, NONE, NONE);
        // With BELIEF 20, SAYING 20 brings 20 * 400, SAYING 19 20 * 399.
        last.pays(20, 399, 0);
        believed(last, "TRUE: 19 brings as much as 20", NONE, NONE, NONE);
        last.pays(20, 398, 0);
        believed(last, "the last BELIEF", 20, 19, 20);
        last.pays(0, 0, 398);
        believed(last, "the first BELIEF: 1 brings 20 * 399", 0, 1, 20);
        for (int what : Book.beyond(0, 2)) {
            book.refused(Scene.NEW, "belief(" + what + "), TRUE", y -> y.belief(what), OUTSIDE);
            book.refused(Scene.RICH, "belief(" + what + "), not TRUE", y -> y.belief(what), OUTSIDE);
        }
        book.is("RICH is not TRUE", Scene.RICH.make().belief(0) >= 0 ? 1 : 0, 1);
    }

    private void plan() {
        book.promise(32, "plan", "PLAN; NONE. OUTSIDE.");
        book.says("the least odd number (1 to 9) of answers the greater part of which is right with odds of s hundredths "
            + "(0 to 100) or more; none");
        HandsHall x = new HandsHall();
        // 50: always just a half. 80: 0.8, 0.896, 0.94208, 0.966656, 0.98041856. 10: 0.1, 0.028, less and less.
        // 51: 0.51, 0.514998, 0.518745.., 0.521865..
        int[][] want = {{0, 0, 1}, {100, 0, 1}, {0, 1, NONE}, {0, 100, NONE}, {100, 100, 1}, {1, 1, 1}, {1, 2, NONE},
            {99, 99, 1}, {99, 100, NONE}, {50, 50, 1}, {50, 51, NONE}, {80, 80, 1}, {80, 81, 3}, {80, 89, 3},
            {80, 90, 5}, {80, 94, 5}, {80, 95, 7}, {80, 96, 7}, {80, 97, 9}, {80, 98, 9}, {80, 99, NONE},
            {80, 100, NONE}, {10, 10, 1}, {10, 11, NONE}, {49, 49, 1}, {49, 50, NONE}, {51, 51, 1}, {51, 52, 7}};
        for (int[] w : want) {
            book.is("plan(" + w[0] + ", " + w[1] + ")", x.plan(w[0], w[1]), w[2]);
        }
        for (int v : Book.beyond(0, 100)) {
            book.refused(Scene.RICH, "plan(" + v + ", 50)", y -> y.plan(v, 50), OUTSIDE);
            book.refused(Scene.RICH, "plan(50, " + v + ")", y -> y.plan(50, v), OUTSIDE);
            book.refused(Scene.RICH, "plan(" + v + ", " + v + ")", y -> y.plan(v, v), OUTSIDE);
        }
    }

    private void tells(HandsHall x, String why, int... want) {
        for (int what = 0; what < want.length; what++) {
            book.is("told(" + what + "): " + why, x.told(what), want[what]);
        }
    }

    private void told() {
        book.promise(33, "told",
            "0 signs, 1 STEPS, 2 ITEMS, 3 HANDS, 4 answers that COUNT, 5 ITEMS that are OPEN, as bits. OUTSIDE.");
        tells(new HandsHall(), "nothing is there", 0, 0, 0, 0, 0, 0);
        tells(Scene.FULL.make(), "all is full", 60, 8, 24, 10, 31, (1 << 24) - 1);
        HandsHall x = Due.of("a:K!0", 1, 1);
        tells(x, "one of each", 0, 1, 1, 1, 0, 1);
        x.answer(0, 0, 0);
        x.say('a');
        tells(x, "one of each", 1, 1, 1, 1, 1, 1);
        x.out(0, true);
        tells(x, "one that does not COUNT", 1, 1, 1, 1, 0, 1);
        HandsHall shut = Due.of("a:K!0;b:K<a!0");
        shut.item(1, 0);
        tells(shut, "one that is not OPEN", 0, 2, 1, 0, 0, 0);
        HandsHall last = Due.of("a:K!0;b:K!0;c:K<a!0");
        for (int i = 0; i < 20; i++) {
            last.item(1 + i / 10, i % 10);
        }
        tells(last, "ten that are not OPEN", 0, 3, 20, 0, 0, 1023);
        last.item(0, 9);
        tells(last, "nine that are not OPEN", 0, 3, 21, 0, 0, 1023 + (1 << 19) + (1 << 20));
        HandsHall all = Due.of("a:K!0;b:K!0;c:K!0", 24, 10);
        for (int n = 0; n < 240; n++) {
            all.answer(n % 10, n / 10, 1);
        }
        tells(all, "240 answers", 0, 3, 24, 10, 240, (1 << 24) - 1);
    }

    private void toldRefused() {
        for (int what : Book.beyond(0, 5)) {
            book.refused(Scene.NEW, "told(" + what + ")", x -> x.told(what), OUTSIDE);
            book.refused(Scene.RICH, "told(" + what + ")", x -> x.told(what), OUTSIDE);
            book.refused(Scene.FULL, "told(" + what + ")", x -> x.told(what), OUTSIDE);
        }
    }
}

import java.util.Random;

/** Long runs of calls, of which the seeds are written here: each answer beside the Model's. */
public final class ModelTest {
    private static final int RUNS = 600;
    /** What an object may be used for. */
    private static final int CALLS = 512;
    /** What textual() may need. */
    private static final int TEXTUAL = 130;
    private static final int[] EDGES = {Integer.MIN_VALUE, Integer.MIN_VALUE + 1, -1000001, -7, -6, -1, 11, 24, 25, 60,
        127, 1001, 1000001, Integer.MAX_VALUE - 1, Integer.MAX_VALUE};

    private final Due due;
    private final Random lot;
    private final int run;
    private HandsHall x = new HandsHall();
    private Model m = new Model();
    private int left = CALLS;
    /** How wild this run's numbers are: of 1000, so many are edges. */
    private final int wild;

    private ModelTest(Due due, int run) {
        this.due = due;
        this.run = run;
        this.lot = new Random(77000 + run);
        this.wild = new int[] {0, 5, 20, 100}[run % 4];
    }

    public static void main(String[] args) {
        Due due = new Due("ModelTest");
        for (int run = 0; run < RUNS; run++) {
            new ModelTest(due, run).go();
        }
        plans(due);
        due.end();
    }

    /** Every PLAN there is. */
    private static void plans(Due due) {
        for (int q = -1; q <= 101; q++) {
            HandsHall x = new HandsHall();
            Model m = new Model();
            for (int s = -1; s <= 101; s++) {
                due.is("plan(" + q + ", " + s + ")", x.plan(q, s), m.plan(q, s));
            }
        }
    }

    private void go() {
        if (run % 8 < 6) {
            text(validText());
            same("task()", x.task(), m.task());
            furnish();
        }
        while (left > 0) {
            any();
        }
    }

    private void same(String call, long got, long want) {
        left--;
        due.is("run " + run + ": " + call, got, want);
    }

    /** A number of 0 to less than n, or now and then one that is not. */
    private int num(int n) {
        if (lot.nextInt(1000) < wild) {
            return EDGES[lot.nextInt(EDGES.length)];
        }
        return lot.nextInt(200) == 0 ? n : lot.nextInt(n);
    }

    private void text(String s) {
        for (int i = 0; i < s.length(); i++) {
            same("say(" + (int) s.charAt(i) + ")", x.say(s.charAt(i)), m.say(s.charAt(i)));
        }
    }

    private String validText() {
        StringBuilder b = new StringBuilder();
        String names = "";
        int steps = 1 + lot.nextInt(run % 3 == 0 ? 8 : 3);
        for (int i = 0; i < steps; i++) {
            char name;
            do {
                name = (char) ('a' + lot.nextInt(8));
            } while (names.indexOf(name) >= 0);
            StringBuilder step = new StringBuilder(i == 0 ? "" : ";").append(name).append(':');
            step.append(new String[] {"C2", "C3", "C4", "K", "O"}[lot.nextInt(5)]);
            StringBuilder needs = new StringBuilder();
            for (char c = 'a'; c <= 'h'; c++) {
                if (names.indexOf(c) >= 0 && lot.nextInt(names.length() + 1) == 0) {
                    needs.append(c);
                }
            }
            step.append(needs.length() == 0 ? "" : "<" + needs).append('!');
            step.append(new int[] {0, 5, 333, 500, 501, 700, 999}[lot.nextInt(7)]);
            if (b.length() + step.length() > 60) {
                break;
            }
            b.append(step);
            names += name;
        }
        return b.toString();
    }

    private void furnish() {
        int items = lot.nextInt(25);
        int hands = 1 + lot.nextInt(10);
        int knownOf = lot.nextInt(4);
        for (int i = 0; i < items; i++) {
            item();
            if (lot.nextInt(4) < knownOf) {
                known(i);
            }
            if (lot.nextInt(2) == 0) {
                show(i);
            }
        }
        for (int i = 0; i < hands; i++) {
            same("hand()", x.hand(), m.hand());
        }
        int most = Math.min(items * hands, 200 + lot.nextInt(100));
        int hint = lot.nextInt(3);
        for (int i = 0; i < most && left > 60; i++) {
            answer(lot.nextInt(hands), lot.nextInt(Math.max(1, items)), hint == 0 ? 0 : lot.nextInt(1 + hint));
        }
        join();
    }

    private void any() {
        switch (lot.nextInt(34)) {
            case 0: if (left >= TEXTUAL) textual(); break;
            case 1: step(); break;
            case 2: item(); break;
            case 3: known(num(24)); break;
            case 4: settle(); break;
            case 5: show(num(24)); break;
            case 6: case 7: case 8: ofItem(); break;
            case 9: if (lot.nextInt(6) == 0) same("hand()", x.hand(), m.hand()); break;
            case 10: out(); break;
            case 11: case 12: case 13: answer(num(10), num(24), num(4)); break;
            case 14: back(); break;
            case 15: said(); break;
            case 16: set(); break;
            case 17: case 18: join(); break;
            case 19: share(); break;
            case 20: table(); break;
            case 21: next(); break;
            case 22: right(); break;
            case 23: guessing(); break;
            case 24: copying(); break;
            case 25: misread(); break;
            case 26: deal(); break;
            case 27: better(); break;
            case 28: lean(); break;
            case 29: coins(); break;
            case 30: pays(); break;
            case 31: belief(); break;
            case 32: plan(); break;
            default: told(); break;
        }
    }

    private void textual() {
        if (lot.nextInt(3) == 0) {
            same("wipe()", x.wipe(), m.wipe());
        }
        String s = validText();
        if (lot.nextInt(3) > 0 && s.length() > 1) {
            int at = lot.nextInt(s.length());
            char sign = "abcdefgh:CKO234<!;0159Aiz~".charAt(lot.nextInt(26));
            String tail = s.substring(lot.nextInt(2) == 0 ? at : at + 1);
            s = s.substring(0, at) + (lot.nextInt(3) == 0 ? "" : sign) + tail;
        }
        text(lot.nextInt(4) == 0 ? s.substring(0, lot.nextInt(s.length() + 1)) : s);
        same("fault()", x.fault(), m.fault());
        int odd = num(130);
        same("say(" + odd + ")", x.say(odd), m.say(odd));
        same("fault()", x.fault(), m.fault());
        if (lot.nextInt(8) == 0) {
            same("wipe()", x.wipe(), m.wipe());
            text(s);
            same("task()", x.task(), m.task());
        }
        if (lot.nextInt(4) == 0) {
            same("task()", x.task(), m.task());
        }
    }

    private void step() {
        int i = num(8);
        int what = num(4);
        same("step(" + i + ", " + what + ")", x.step(i, what), m.step(i, what));
    }

    private void item() {
        int step = num(run % 3 == 0 ? 8 : 3);
        int thing = num(10);
        same("item(" + step + ", " + thing + ")", x.item(step, thing), m.item(step, thing));
    }

    private void known(int item) {
        int label = num(3);
        same("known(" + item + ", " + label + ")", x.known(item, label), m.known(item, label));
    }

    private void settle() {
        int item = num(24);
        int label = num(4);
        same("settle(" + item + ", " + label + ")", x.settle(item, label), m.settle(item, label));
    }

    private void show(int item) {
        int parts = num(16);
        same("show(" + item + ", " + parts + ")", x.show(item, parts), m.show(item, parts));
    }

    private void ofItem() {
        int item = num(24);
        int what = num(10);
        same("ofItem(" + item + ", " + what + ")", x.ofItem(item, what), m.ofItem(item, what));
    }

    private void out() {
        int hand = num(10);
        boolean is = lot.nextInt(3) == 0;
        same("out(" + hand + ", " + is + ")", x.out(hand, is), m.out(hand, is));
    }

    private void answer(int hand, int item, int label) {
        same("answer(" + hand + ", " + item + ", " + label + ")", x.answer(hand, item, label),
            m.answer(hand, item, label));
    }

    private void back() {
        int hand = num(10);
        int item = num(24);
        same("back(" + hand + ", " + item + ")", x.back(hand, item), m.back(hand, item));
    }

    private void said() {
        int hand = num(10);
        int item = num(24);
        same("said(" + hand + ", " + item + ")", x.said(hand, item), m.said(hand, item));
    }

    private void set() {
        int which = num(6);
        int v = num(which == 1 ? 100001 : which == 2 ? 61 : 101);
        if (which == 1 && lot.nextInt(2) == 0) {
            v = num(3);
        }
        same("set(" + which + ", " + v + ")", x.set(which, v), m.set(which, v));
    }

    private void join() {
        same("join()", x.join(), m.join());
    }

    private void share() {
        int item = num(24);
        int label = num(4);
        same("share(" + item + ", " + label + ")", x.share(item, label), m.share(item, label));
    }

    private void table() {
        int hand = num(10);
        int labels = 2 + num(3);
        int t = num(4);
        int s = num(4);
        same("table(" + hand + ", " + labels + ", " + t + ", " + s + ")", x.table(hand, labels, t, s),
            m.table(hand, labels, t, s));
    }

    private void next() {
        int what = num(3);
        same("next(" + what + ")", x.next(what), m.next(what));
    }

    private void right() {
        int hand = num(10);
        int what = num(4);
        same("right(" + hand + ", " + what + ")", x.right(hand, what), m.right(hand, what));
    }

    private void guessing() {
        int hand = num(10);
        int part = num(2);
        same("guessing(" + hand + ", " + part + ")", x.guessing(hand, part), m.guessing(hand, part));
    }

    private void copying() {
        int a = num(10);
        int b = num(10);
        int part = num(2);
        same("copying(" + a + ", " + b + ", " + part + ")", x.copying(a, b, part), m.copying(a, b, part));
    }

    private void misread() {
        int n = num(5);
        same("misread(" + n + ")", x.misread(n), m.misread(n));
    }

    private void deal() {
        int seed = num(1000001);
        same("deal(" + seed + ")", x.deal(seed), m.deal(seed));
    }

    private void better() {
        int part = num(2);
        same("better(" + part + ")", x.better(part), m.better(part));
    }

    private void lean() {
        int hand = num(10);
        same("lean(" + hand + ")", x.lean(hand), m.lean(hand));
    }

    private void coins() {
        int hand = num(10);
        same("coins(" + hand + ")", x.coins(hand), m.coins(hand));
    }

    private void pays() {
        int saying = num(21);
        int right = lot.nextInt(40) == 0 ? num(2001) - 1000 : saying * (40 - saying);
        int wrong = lot.nextInt(40) == 0 ? num(2001) - 1000 : 400 - saying * saying;
        same("pays(" + saying + ", " + right + ", " + wrong + ")", x.pays(saying, right, wrong),
            m.pays(saying, right, wrong));
    }

    private void belief() {
        int what = num(3);
        same("belief(" + what + ")", x.belief(what), m.belief(what));
    }

    private void plan() {
        int q = num(101);
        int s = num(101);
        same("plan(" + q + ", " + s + ")", x.plan(q, s), m.plan(q, s));
    }

    private void told() {
        int what = num(6);
        same("told(" + what + ")", x.told(what), m.told(what));
    }
}

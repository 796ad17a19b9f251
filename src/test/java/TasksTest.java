/** Promises 1 to 11: a new object, signs, THE FAULT, TASKS, STEPS and ITEMS. */
public final class TasksTest {
    private static final Due DUE = new Due("TasksTest");

    public static void main(String[] args) {
        aNewObject();
        say();
        wipe();
        fault();
        task();
        step();
        item();
        known();
        settle();
        show();
        ofItem();
        open();
        DUE.end();
    }

    private static void aNewObject() {
        HandsHall x = new HandsHall();
        for (int what = 0; what <= 5; what++) {
            DUE.is("new: told(" + what + ")", x.told(what), 0);
        }
        DUE.is("new: fault()", x.fault(), 0);
        DUE.is("new: wipe()", x.wipe(), 0);
        DUE.is("new: step(0, 0)", x.step(0, 0), -1);
        DUE.is("new: item(0, 0)", x.item(0, 0), -1);
        DUE.is("new: out(0, false)", x.out(0, false), -1);
        DUE.is("new: next(0)", x.next(0), -3);
        DUE.is("new: belief(0)", x.belief(0), -6);
        int[] first = {10, 100, 30, 2, 3, 1};
        for (int which = 0; which <= 5; which++) {
            DUE.is("new: set(" + which + ", 1)", x.set(which, 1), first[which]);
        }
        DUE.is("another new: set(0, 1)", new HandsHall().set(0, 1), 10);
    }

    private static void say() {
        HandsHall x = new HandsHall();
        for (int sign : new int[] {32, 127, 0, -1, 65536 + 97, Integer.MIN_VALUE, Integer.MAX_VALUE}) {
            DUE.is("say(" + sign + ")", x.say(sign), -2);
        }
        DUE.is("say(33)", x.say(33), 1);
        DUE.is("say(126)", x.say(126), 2);
        for (int n = 3; n <= 60; n++) {
            DUE.is("say(97), the " + n + "th", x.say(97), n);
        }
        DUE.is("say(97), the 61st", x.say(97), -4);
        DUE.is("say(32) when full", x.say(32), -2);
        DUE.is("told(0) when full", x.told(0), 60);
        DUE.is("wipe() when full", x.wipe(), 60);
        DUE.is("say(97) behind that", x.say(97), 1);
    }

    private static void wipe() {
        HandsHall x = Due.of("a:K!0", 1, 1);
        Due.say(x, "b:K");
        DUE.is("wipe()", x.wipe(), 3);
        DUE.is("wipe() again", x.wipe(), 0);
        DUE.is("told(0) wiped", x.told(0), 0);
        DUE.is("told(2) wiped: the TASK stays", x.told(2), 1);
        DUE.is("fault() wiped", x.fault(), 0);
    }

    private static void fault() {
        Object[][] texts = {
            {"a:K!0", -6}, {"h:O!00", -6}, {"a:C2!999", -6}, {"a:C4!007", -6}, {"a:C3!1;b:K<a!2", -6},
            {"b:K!1;a:O<b!2;h:C2<ab!3", -6},
            {"", 0}, {"a", 1}, {"a:", 2}, {"a:C", 3}, {"a:C2", 4}, {"a:K", 3}, {"a:K!", 4}, {"a:K!1;", 6},
            {"a:K!1;b", 7}, {"a:K!1;b:", 8}, {"a:K!1;b:O<", 10}, {"a:K!1;b:O<a", 11}, {"a:K!1;b:O<a!", 12},
            {"i:K!0", 0}, {"A:K!0", 0}, {"`:K!0", 0}, {";a:K!0", 0}, {"a;", 1}, {"aa:K!0", 1}, {"a:X!0", 2},
            {"a:c2!0", 2}, {"a:C1!0", 3}, {"a:C5!0", 3}, {"a:C!0", 3}, {"a:C22!0", 4}, {"a:K2!0", 3}, {"a:KK!0", 3},
            {"a:K<a!0", 3}, {"a:K<!0", 3}, {"a:K:0", 3}, {"a:K!x", 4}, {"a:K!;", 4}, {"a:K!1234", 7}, {"a:K!1x", 5},
            {"a:K!1:", 5}, {"a:K!1;a:K!0", 6}, {"a:K!1;;", 6}, {"a:K!1;b:K<!0", 10}, {"a:K!1;b:K<b!0", 10},
            {"a:K!1;b:K<c!0", 10}, {"a:K!1;b:K<aa!0", 11}, {"a:K!1;b:K<ab!0", 11}, {"a:K!1;b:K<a;", 11},
            {"b:K!1;a:K!1;c:K<ba!0", 17}, {"b:K!1;a:K!1;c:K<ab!0", -6}, {"a:K!1;b:K<a<a!0", 11},
            {"a:K!1;b:K!2;b:K!3", 12}, {"a:K!/", 4}, {"a:K!9:", 5}, {"a:K!1!", 5}, {"~", 0},
            {"a:K!0;b:K!0;c:K!0;d:K!0;e:K!0;f:K!0;g:K!0;h:K!0", -6},
            {"a:K!0;b:K!0;c:K!0;d:K!0;e:K!0;f:K!0;g:K!0;h:K!0;", 47},
            {"a:K!0;b:K!0;c:K!0;d:K!0;e:K!0;f:K!0;g:K!0;h:K!0;a", 47},
            {"a:K!0;b:K!0;c:K!0;d:K!0;e:K!0;f:K!0;g:K!0;h:K<abcdefg!999", -6},
            {"a:K!000;b:K!000;c:K!000;d:K!000;e:K!000;f:K!000;g:K!000;h:K!", 60},
        };
        for (Object[] row : texts) {
            HandsHall x = new HandsHall();
            String text = (String) row[0];
            Due.say(x, text);
            DUE.is("fault() of " + text, x.fault(), (Integer) row[1]);
            DUE.is("fault() again of " + text, x.fault(), (Integer) row[1]);
            DUE.is("told(0) behind fault() of " + text, x.told(0), text.length());
        }
    }

    private static void task() {
        HandsHall x = new HandsHall();
        DUE.is("task() of nothing", x.task(), -5);
        Due.say(x, "a:K!5;b:C3<a!600");
        DUE.is("task()", x.task(), 2);
        DUE.is("told(0) behind task()", x.told(0), 0);
        DUE.is("told(1) behind task()", x.told(1), 2);
        DUE.is("task() again", x.task(), -5);
        DUE.is("told(1) behind NO", x.told(1), 2);
        x.item(0, 0);
        Due.hands(x, 2);
        x.answer(0, 0, 1);
        x.show(0, 5);
        x.set(3, 7);
        x.pays(3, 5, 6);
        x.deal(1);
        x.out(1, true);
        x.join();
        Due.say(x, "c:O!1;");
        DUE.is("fault()", x.fault(), 6);
        DUE.is("task() with a fault", x.task(), -5);
        DUE.is("signs stay", x.told(0), 6);
        DUE.is("ITEMS stay", x.told(2), 1);
        DUE.is("answers stay", x.said(0, 0), 1);
        DUE.is("STEPS stay", x.step(1, 1), 3);
        Due.say(x, "d:C4!23");
        DUE.is("fault() anew", x.fault(), -6);
        DUE.is("task() anew", x.task(), 2);
        DUE.is("its number", x.step(1, 3), 23);
        DUE.is("no ITEMS then", x.told(2), 0);
        DUE.is("no HANDS then", x.told(3), 0);
        DUE.is("no answers then", x.told(4), 0);
        DUE.is("no JOINING then", x.next(0), -3);
        DUE.is("STEPS are new", x.step(1, 1), 4);
        DUE.is("their needs too", x.step(1, 2), 0);
        DUE.is("ITEMS from 0 on", x.item(1, 3), 0);
        DUE.is("its SHARES", x.share(0, 3), 250000);
        DUE.is("its PARTS", x.ofItem(0, 9), 0);
        DUE.is("HANDS from 0 on", x.hand(), 0);
        DUE.is("HANDS from 0 on", x.hand(), 1);
        DUE.is("in", x.out(1, false), 0);
        DUE.is("VERSION 0", x.right(0, 3), 0);
        DUE.is("nothing said", x.said(0, 0), -6);
        DUE.is("no TABLE", x.table(0, 2, 0, 0), -6);
        DUE.is("numbers stay", x.set(3, 2), 7);
        DUE.is("what is paid stays", x.belief(0), 0);
    }

    private static void step() {
        HandsHall x = Due.of("c:C3!0;a:O!70;h:K<ac!400;b:C4<ch!9;d:C2<b!010");
        int[][] want = {{2, 3, 0, 0}, {0, 2, 0, 70}, {7, 2, 3, 400}, {1, 4, 5, 9}, {3, 2, 8, 10}};
        for (int i = 0; i < want.length; i++) {
            for (int what = 0; what < 4; what++) {
                DUE.is("step(" + i + ", " + what + ")", x.step(i, what), want[i][what]);
            }
        }
        DUE.is("step(5, 0)", x.step(5, 0), -1);
        DUE.is("step(-1, 9)", x.step(-1, 9), -1);
        DUE.is("step(0, 4)", x.step(0, 4), -2);
        DUE.is("step(0, -1)", x.step(0, -1), -2);
    }

    private static void item() {
        HandsHall x = Due.of("a:K!0;b:K!0;c:C3!0");
        DUE.is("item(3, 10)", x.item(3, 10), -1);
        DUE.is("item(-1, 0)", x.item(-1, 0), -1);
        DUE.is("item(0, 10)", x.item(0, 10), -2);
        DUE.is("item(0, -1)", x.item(0, -1), -2);
        DUE.is("item(2, 9)", x.item(2, 9), 0);
        DUE.is("item(2, 9) again", x.item(2, 9), -5);
        DUE.is("told(2) behind NO", x.told(2), 1);
        for (int i = 1; i < 24; i++) {
            DUE.is("item, the " + i + "th", x.item((i - 1) / 10, (i - 1) % 10), i);
        }
        DUE.is("item(2, 8) when full", x.item(2, 8), -4);
        DUE.is("item(2, 9) when full: FULL comes ahead of NO", x.item(2, 9), -4);
        DUE.is("item(2, 10) when full", x.item(2, 10), -2);
        DUE.is("item(3, 0) when full", x.item(3, 0), -1);
        DUE.is("told(2) when full", x.told(2), 24);
    }

    private static void known() {
        HandsHall x = Due.of("a:C3!0", 4, 2);
        DUE.is("known(4, 0)", x.known(4, 0), -1);
        DUE.is("known(-1, 0)", x.known(-1, 0), -1);
        DUE.is("known(0, 3)", x.known(0, 3), -1);
        DUE.is("known(0, -1)", x.known(0, -1), -1);
        DUE.is("known(0, 2)", x.known(0, 2), 1);
        DUE.is("ofItem(0, 3)", x.ofItem(0, 3), 2);
        DUE.is("known(0, 2) again", x.known(0, 2), -3);
        DUE.is("known(0, 3) again", x.known(0, 3), -1);
        x.settle(1, 0);
        DUE.is("known(1, 0): SETTLED", x.known(1, 0), -3);
        x.answer(0, 2, 1);
        DUE.is("known(2, 1): answered", x.known(2, 1), -3);
        x.out(0, true);
        DUE.is("known(2, 1): answered, if it does not COUNT too", x.known(2, 1), -3);
        x.back(0, 2);
        DUE.is("known(2, 1): taken back", x.known(2, 1), 1);
        DUE.is("ofItem(3, 3)", x.ofItem(3, 3), -6);
        DUE.is("ofItem(1, 3)", x.ofItem(1, 3), -6);
    }

    private static void settle() {
        HandsHall x = Due.of("a:C3!0", 3, 1);
        DUE.is("settle(3, 0)", x.settle(3, 0), -1);
        DUE.is("settle(0, 3)", x.settle(0, 3), -1);
        DUE.is("settle(0, -1)", x.settle(0, -1), -1);
        x.answer(0, 0, 1);
        DUE.is("settle(0, 2)", x.settle(0, 2), -6);
        DUE.is("settle(0, 0)", x.settle(0, 0), 2);
        DUE.is("settle(0, 1)", x.settle(0, 1), 0);
        DUE.is("ofItem(0, 4)", x.ofItem(0, 4), 1);
        x.known(1, 1);
        DUE.is("settle(1, 1)", x.settle(1, 1), -3);
        DUE.is("settle(1, 3)", x.settle(1, 3), -1);
        DUE.is("ofItem(1, 4)", x.ofItem(1, 4), -6);
    }

    private static void show() {
        HandsHall x = Due.of("a:K!0", 2, 0);
        DUE.is("show(2, 16)", x.show(2, 16), -1);
        DUE.is("show(-1, 0)", x.show(-1, 0), -1);
        DUE.is("show(0, 16)", x.show(0, 16), -2);
        DUE.is("show(0, -1)", x.show(0, -1), -2);
        DUE.is("show(0, 15)", x.show(0, 15), 0);
        DUE.is("show(0, 0)", x.show(0, 0), 15);
        DUE.is("show(0, 6)", x.show(0, 6), 0);
        DUE.is("ofItem(0, 9)", x.ofItem(0, 9), 6);
        DUE.is("ofItem(1, 9)", x.ofItem(1, 9), 0);
    }

    private static void ofItem() {
        HandsHall x = Due.of("a:K!0;b:C4!0;c:C3<a!501");
        x.item(1, 7);
        x.item(2, 3);
        x.item(0, 3);
        int[][] want = {{1, 7, 4, -6, -6, 1, 0, 0, 250, 0}, {2, 3, 3, -6, -6, 0, 0, 0, 333, 0},
            {0, 3, 2, -6, -6, 1, 0, 0, 500, 0}};
        for (int item = 0; item < 3; item++) {
            for (int what = 0; what < 10; what++) {
                DUE.is("ofItem(" + item + ", " + what + ")", x.ofItem(item, what), want[item][what]);
            }
        }
        DUE.is("ofItem(3, 0)", x.ofItem(3, 0), -1);
        DUE.is("ofItem(-1, 10)", x.ofItem(-1, 10), -1);
        DUE.is("ofItem(0, 10)", x.ofItem(0, 10), -2);
        DUE.is("ofItem(0, -1)", x.ofItem(0, -1), -2);
        Due.hands(x, 3);
        x.answer(0, 0, 3);
        x.answer(1, 0, 3);
        DUE.is("answers that COUNT", x.ofItem(0, 6), 2);
        DUE.is("END, not joined yet", x.ofItem(0, 7), 0);
        x.out(1, true);
        DUE.is("answers that COUNT, one out", x.ofItem(0, 6), 1);
        x.known(2, 1);
        DUE.is("END, KNOWN since", x.ofItem(2, 7), 1);
        DUE.is("SURE, KNOWN since", x.ofItem(2, 8), 1000);
        DUE.is("OPEN by what is KNOWN since", x.ofItem(1, 5), 1);
        x.settle(0, 2);
        DUE.is("END, SETTLED since", x.ofItem(0, 7), 2);
        DUE.is("SURE, SETTLED since", x.ofItem(0, 8), 1000);
        DUE.is("SHARE, SETTLED since", x.share(0, 2), 1000000);
        DUE.is("SHARE, SETTLED since, another LABEL", x.share(0, 3), 0);
    }

    /** The number that SURE is held against is that of the STEP of the ITEM that NEEDS, not of the one it NEEDS. */
    private static void open() {
        HandsHall x = Due.of("a:K!999;b:O<a!500;c:O<a!501;d:K<ab!0");
        DUE.is("item b", x.item(1, 4), 0);
        DUE.is("needs one that is not there", x.ofItem(0, 5), 0);
        x.item(0, 5);
        DUE.is("one of another THING does not help", x.ofItem(0, 5), 0);
        x.item(0, 4);
        DUE.is("500 is at least 500", x.ofItem(0, 5), 1);
        DUE.is("item c", x.item(2, 4), 3);
        DUE.is("500 is not at least 501", x.ofItem(3, 5), 0);
        DUE.is("item d", x.item(3, 5), 4);
        DUE.is("each must be there", x.ofItem(4, 5), 0);
        x.item(1, 5);
        DUE.is("each is there", x.ofItem(4, 5), 1);
        DUE.is("told(5)", x.told(5), 1 + 2 + 4 + 16 + 32);
    }
}

/** Edges of promises 1 to 6: a new object, signs, THE FAULT, TASKS and STEPS. */
final class TaskEdges {
    private static final int NONE = -6, UNKNOWN = -1, OUTSIDE = -2, STATE = -3, FULL = -4, NO = -5;
    private static final long LOST = -1000000000000000000L;
    private static final String EIGHT = "a:K!0;b:K!0;c:K!0;d:K!0;e:K!0;f:K!0;g:K!0;h:K!0";

    private final Book book;

    TaskEdges(Book book) {
        this.book = book;
    }

    void all() {
        newObject();
        say();
        wipe();
        fault();
        faultSignBySign();
        task();
        taskReplacesAll();
        taskOfTheSignsAlone();
        step();
    }

    private static HandsHall with(String text) {
        HandsHall x = new HandsHall();
        Due.say(x, text);
        return x;
    }

    private void newObject() {
        book.promise(1, "A new object", "No STEPS, ITEMS, HANDS; numbers as at first.");
        HandsHall x = new HandsHall();
        for (int what = 0; what <= 5; what++) {
            book.is("told(" + what + ")", x.told(what), 0);
        }
        book.is("step(0, 0)", x.step(0, 0), UNKNOWN);
        book.is("item(0, 0)", x.item(0, 0), UNKNOWN);
        book.is("known(0, 0)", x.known(0, 0), UNKNOWN);
        book.is("settle(0, 0)", x.settle(0, 0), UNKNOWN);
        book.is("show(0, 0)", x.show(0, 0), UNKNOWN);
        book.is("ofItem(0, 0)", x.ofItem(0, 0), UNKNOWN);
        book.is("out(0, true)", x.out(0, true), UNKNOWN);
        book.is("answer(0, 0, 0)", x.answer(0, 0, 0), UNKNOWN);
        book.is("back(0, 0)", x.back(0, 0), UNKNOWN);
        book.is("said(0, 0)", x.said(0, 0), UNKNOWN);
        book.is("share(0, 0)", x.share(0, 0), UNKNOWN);
        book.is("table(0, 2, 0, 0)", x.table(0, 2, 0, 0), UNKNOWN);
        book.is("right(0, 0)", x.right(0, 0), UNKNOWN);
        book.is("guessing(0, 0)", x.guessing(0, 0), LOST + UNKNOWN);
        book.is("copying(0, 1, 0)", x.copying(0, 1, 0), LOST + UNKNOWN);
        book.is("lean(0)", x.lean(0), UNKNOWN);
        book.is("coins(0)", x.coins(0), UNKNOWN);
        book.is("fault()", x.fault(), 0);
        book.is("wipe()", x.wipe(), 0);
        book.is("task()", x.task(), NO);
        book.is("next(0)", x.next(0), STATE);
        book.is("misread(1)", x.misread(1), 0);
        book.is("deal(1)", x.deal(1), 0);
        book.is("better(0)", x.better(0), 1);
        book.is("better(1)", x.better(1), 1);
        book.is("belief(0)", x.belief(0), NONE);
        book.is("join()", x.join(), 1);
        int[] first = {10, 100, 30, 2, 3, 1};
        for (int which = 0; which <= 5; which++) {
            book.is("set(" + which + ", 1)", x.set(which, 1), first[which]);
        }
        Scene.FULL.make();
        HandsHall another = Scene.RICH.make();
        another.set(0, 99);
        for (int group = 0; group < Scene.groups(); group++) {
            book.is("new beside others (" + group + ")", Scene.NEW.unlike(group, new HandsHall()), -1);
        }
        book.is("set(0, 1) of one beside another", new HandsHall().set(0, 1), 10);
    }

    private void say() {
        book.promise(2, "say", "A sign more: how many. OUTSIDE; FULL.");
        book.says("(60 signs, codes 33 to 126, 8 STEPS)");
        HandsHall x = new HandsHall();
        for (int sign = 33; sign <= 126; sign++) {
            if (sign == 33 + 60) {
                book.is("say(" + sign + "), the 61st", x.say(sign), FULL);
                x.wipe();
            }
            book.is("say(" + sign + ")", x.say(sign), (sign - 33) % 60 + 1);
        }
        for (int sign : Book.beyond(33, 126)) {
            book.refused(Scene.NEW, "say(" + sign + ")", y -> y.say(sign), OUTSIDE);
            book.refused(Scene.RICH, "say(" + sign + ")", y -> y.say(sign), OUTSIDE);
            book.refused(Scene.FULL, "say(" + sign + ") when full", y -> y.say(sign), OUTSIDE);
        }
        book.is("signs when full", Scene.FULL.make().told(0), 60);
        for (int sign : new int[] {33, 126, ';', '0'}) {
            book.refused(Scene.FULL, "say(" + sign + ") when full", y -> y.say(sign), FULL);
        }
    }

    private void wipe() {
        book.promise(3, "wipe", "Signs go: how many there were.");
        HandsHall x = new HandsHall();
        book.is("wipe() of none", x.wipe(), 0);
        x.say('z');
        book.is("wipe() of one", x.wipe(), 1);
        book.is("wipe() of none again", x.wipe(), 0);
        x = Scene.FULL.make();
        book.is("wipe() of 60", x.wipe(), 60);
        book.is("told(0) behind it", x.told(0), 0);
        book.is("fault() behind it", x.fault(), 0);
        book.is("task() behind it", x.task(), NO);
        book.is("STEPS stay", x.told(1), 8);
        book.is("ITEMS stay", x.told(2), 24);
        book.is("HANDS stay", x.told(3), 10);
        book.is("answers stay", x.told(4), 31);
        book.is("a sign more", x.say('b'), 1);
        book.is("just that one is there", x.fault(), 1);
    }

    private void faultIs(String text, int want) {
        HandsHall x = with(text);
        book.is("fault() of " + text, x.fault(), want);
        book.is("fault() once more of " + text, x.fault(), want);
        book.is("signs behind it of " + text, x.told(0), text.length());
        book.is("task() of " + text, x.task() < 0 ? NO : 1, want == NONE ? 1 : NO);
    }

    private void fault() {
        book.promise(4, "fault", "THE FAULT; NONE.");
        book.says("one or more STEPS with a ; between two");
        faultIs("", 0);
        faultIs(";", 0);
        faultIs("a:K!0", NONE);
        faultIs("a:K!0;", 6);
        faultIs("a:K!0;;", 6);
        faultIs("a:K!0;b:K!0", NONE);
        faultIs("a:K!0b:K!0", 5);
        book.says("a ; behind 8 STEPS does not stand");
        faultIs(EIGHT, NONE);
        faultIs(EIGHT + ";", 47);
        faultIs(EIGHT + "00;", 49);
        faultIs(EIGHT + ";a:K!0", 47);
        faultIs(EIGHT.substring(0, 41), NONE);
        faultIs(EIGHT.substring(0, 41) + ";", 42);
        book.says("a NAME (a to h, none twice)");
        faultIs("h:K!0", NONE);
        faultIs("i:K!0", 0);
        faultIs("`:K!0", 0);
        faultIs("A:K!0", 0);
        faultIs("a:K!0;a:K!0", 6);
        faultIs("h:K!0;a:K!0;h:K!0", 12);
        book.says("a KIND (C and 2, 3 or 4: CHOICE of so many LABELS; K: CHECK, of two; O: ORDER, of two)");
        for (String kind : new String[] {"C2", "C3", "C4", "K", "O"}) {
            faultIs("a:" + kind + "!0", NONE);
        }
        faultIs("a:C1!0", 3);
        faultIs("a:C5!0", 3);
        faultIs("a:C!0", 3);
        faultIs("a:K2!0", 3);
        faultIs("a:O2!0", 3);
        faultIs("a:C23!0", 4);
        book.says("perhaps a < and one or more NAMES of STEPS ahead of it (rising, as letters)");
        book.says("a < just if a STEP is ahead");
        faultIs("a:K<a!0", 3);
        faultIs("a:C4<!0", 4);
        faultIs("a:K!0;b:K<!0", 10);
        faultIs("a:K!0;b:K<b!0", 10);
        faultIs("a:K!0;b:K<c!0;c:K!0", 10);
        faultIs("a:K!0;b:K<a!0", NONE);
        faultIs("a:K!0;b:K<aa!0", 11);
        faultIs("h:K!0;b:K!0;c:K<bh!0", NONE);
        faultIs("h:K!0;b:K!0;c:K<hb!0", 17);
        faultIs(EIGHT.substring(0, 45) + "<abcdefg!0", NONE);
        faultIs(EIGHT.substring(0, 45) + "<abcdefgh!0", 53);
        book.says("a number of 1 to 3 digits");
        faultIs("a:K!", 4);
        faultIs("a:K!;b:K!0", 4);
        faultIs("a:K!9", NONE);
        faultIs("a:K!99", NONE);
        faultIs("a:K!999", NONE);
        faultIs("a:K!000", NONE);
        faultIs("a:K!1000", 7);
        faultIs("a:K!0000;b:K!0", 7);
        faultIs("a:K!-1", 4);
        book.says("behind the last sign: their number");
        faultIs("a:K!000;b:K!000;c:K!000;d:K!000;e:K!000;f:K!000;g:K!000;h:K!", 60);
        faultIs(Scene.SIXTY, NONE);
        faultIs(Scene.SIXTY.substring(0, 59), NONE);
        faultIs(Scene.SIXTY.substring(0, 57), 57);
        faultIs(Scene.SIXTY.substring(0, 59) + ";", 59);
        book.says("the first place");
        faultIs("a:X!0;b:Y!0", 2);
        faultIs("~~", 0);
    }

    private static String letters(char from, char to) {
        StringBuilder b = new StringBuilder();
        for (char c = from; c <= to; c++) {
            b.append(c);
        }
        return b.toString();
    }

    /** Every sign at every kind of place: those that go on there, and all others, whose place is THE FAULT. */
    private void faultSignBySign() {
        book.says("at which no sign could make a text go on as it stands");
        String three = "b:K!1;a:K!1;";
        String[][] goesOn = {
            {"", "abcdefgh"}, {"a", ":"}, {"a:", "CKO"}, {"a:C", "234"}, {"a:C2", "!"}, {"a:K", "!"}, {"a:O", "!"},
            {"a:K!", "0123456789"}, {"a:K!1", "0123456789;"}, {"a:K!12", "0123456789;"}, {"a:K!123", ";"},
            {"a:K!1;", "bcdefgh"}, {"h:K!1;", "abcdefg"}, {"a:K!1;b", ":"}, {"a:K!1;b:", "CKO"}, {"a:K!1;b:C", "234"},
            {"a:K!1;b:C4", "<!"}, {"a:K!1;b:K", "<!"}, {"a:K!1;b:O", "<!"}, {"a:K!1;b:O<", "a"}, {"h:K!1;b:O<", "h"},
            {"a:K!1;b:O<a", "!"}, {"a:K!1;b:O<a!", "0123456789"}, {"a:K!1;b:O<a!7", "0123456789;"},
            {"a:K!1;b:O<a!777", ";"}, {three + "c:K<", "ab"}, {three + "c:K<a", "b!"}, {three + "c:K<b", "!"},
            {three + "c:K<ab", "!"}, {EIGHT.substring(0, 42), "h"}, {EIGHT, "0123456789"}, {EIGHT + "1", "0123456789"},
            {EIGHT + "12", ""}, {EIGHT.substring(0, 45) + "<", "abcdefg"}, {EIGHT.substring(0, 45) + "<c", "defg!"},
            {EIGHT.substring(0, 45) + "<abcdef", "g!"}, {EIGHT.substring(0, 45) + "<abcdefg", "!"},
        };
        for (String[] place : goesOn) {
            for (char sign : letters((char) 33, (char) 126).toCharArray()) {
                String text = place[0] + sign;
                int fault = with(text).fault();
                boolean goes = fault == NONE || fault == text.length();
                book.is(text + " goes on", goes ? 1 : 0, place[1].indexOf(sign) >= 0 ? 1 : 0);
                if (!goes) {
                    book.is("fault() of " + text, fault, place[0].length());
                }
            }
        }
    }

    private void task() {
        book.promise(5, "task", "A TASK of the signs (they are empty then): STEPS. NO: there is a FAULT.");
        book.is("task() of one STEP", with("a:K!0").task(), 1);
        book.is("task() of 8 STEPS", with(EIGHT).task(), 8);
        HandsHall x = with(Scene.SIXTY);
        book.is("task() of 60 signs", x.task(), 8);
        book.is("signs are empty then", x.told(0), 0);
        book.is("there is room for one", x.say('a'), 1);
        book.is("they are not read again", x.task(), NO);
        book.refused(Scene.NEW, "task() of no signs", HandsHall::task, NO);
        book.refused(Scene.RICH, "task() of a text that is not at its end", HandsHall::task, NO);
        Scene empty = new Scene("signs wiped", y -> {
            Scene.RICH.play(y);
            y.wipe();
        });
        book.refused(empty, "task() of no signs", HandsHall::task, NO);
        Scene nine = new Scene("60 signs with a fault", y -> {
            Scene.RICH.play(y);
            y.wipe();
            Due.say(y, Scene.SIXTY.substring(0, 59) + ";");
        });
        book.refused(nine, "task() of a text with a fault at its end", HandsHall::task, NO);
    }

    private void taskReplacesAll() {
        book.says("a text that is taken replaces all: no ITEMS, HANDS, answers are there then");
        HandsHall x = Scene.FULL.make();
        x.wipe();
        Due.say(x, "g:C2!7");
        book.is("task()", x.task(), 1);
        int[] told = {0, 1, 0, 0, 0, 0};
        for (int what = 0; what <= 5; what++) {
            book.is("told(" + what + ")", x.told(what), told[what]);
        }
        book.is("step(1, 0)", x.step(1, 0), UNKNOWN);
        book.is("step(0, 3)", x.step(0, 3), 7);
        book.is("ofItem(0, 0)", x.ofItem(0, 0), UNKNOWN);
        book.is("out(0, false)", x.out(0, false), UNKNOWN);
        book.is("item(1, 0)", x.item(1, 0), UNKNOWN);
        book.is("an ITEM's number", x.item(0, 0), 0);
        book.is("a HAND's number", x.hand(), 0);
        book.is("nothing said", x.said(0, 0), NONE);
        book.is("not KNOWN", x.ofItem(0, 3), NONE);
        book.is("not SETTLED", x.ofItem(0, 4), NONE);
        book.is("no JOINING yet: table", x.table(0, 2, 0, 0), NONE);
        book.is("no JOINING yet: next", x.next(0), STATE);
        book.is("no JOINING yet: share", x.share(0, 1), 500000);
        book.is("LABELS of the new STEP", x.share(0, 2), UNKNOWN);
        for (int n = 1; n < 10; n++) {
            book.is("an ITEM's number", x.item(0, n), n);
            book.is("a HAND's number", x.hand(), n);
        }
        book.is("the 11th HAND", x.hand(), FULL);
        HandsHall rich = Scene.RICH.make();
        rich.wipe();
        Due.say(rich, "a:K!0;b:K!0");
        rich.task();
        for (int n = 0; n < 4; n++) {
            rich.item(1, n);
            rich.hand();
            book.is("no PARTS", rich.ofItem(n, 9), 0);
            book.is("no needs", rich.ofItem(n, 5), 1);
            book.is("not out", rich.out(n, false), 0);
            book.is("VERSION 0", rich.right(n, 3), 0);
        }
    }

    /** What a text was that has been wiped, or read by fault, leaves nothing in the next one. */
    private void taskOfTheSignsAlone() {
        book.says("A TASK of the signs");
        HandsHall x = with("a:C4!9;b:C3<a!999;c:C4<ab!999");
        book.is("fault()", x.fault(), NONE);
        x.wipe();
        Due.say(x, "h:K!1;b:O!2");
        book.is("fault()", x.fault(), NONE);
        book.is("task()", x.task(), 2);
        int[][] want = {{7, 2, 0, 1}, {1, 2, 0, 2}, {UNKNOWN, UNKNOWN, UNKNOWN, UNKNOWN}};
        for (int i = 0; i < 3; i++) {
            for (int what = 0; what <= 3; what++) {
                book.is("step(" + i + ", " + what + ")", x.step(i, what), want[i][what]);
            }
        }
        Due.say(x, "a:C4!9;b:C3<a!999;c:C4<ab!9");
        book.is("fault()", x.fault(), NONE);
        for (int i = 0; i < 3; i++) {
            for (int what = 0; what <= 3; what++) {
                book.is("step(" + i + ", " + what + "), not taken", x.step(i, what), want[i][what]);
            }
        }
    }

    private void step() {
        book.promise(6, "step",
            "Of a STEP: 0 its NAME (0 for a), 1 LABELS, 2 STEPS it names, as bits of numbers, 3 its number.");
        HandsHall x = Due.of("h:C2!0;a:C3!999;b:C4<ah!09;c:K<h!010;d:O!100");
        int[][] want = {{7, 2, 0, 0}, {0, 3, 0, 999}, {1, 4, 3, 9}, {2, 2, 1, 10}, {3, 2, 0, 100}};
        for (int i = 0; i < 5; i++) {
            for (int what = 0; what <= 3; what++) {
                book.is("step(" + i + ", " + what + ")", x.step(i, what), want[i][what]);
            }
        }
        HandsHall eight = Scene.FULL.make();
        for (int i = 0; i < 8; i++) {
            book.is("step(" + i + ", 0)", eight.step(i, 0), i);
        }
        book.is("step(7, 2): it names seven", eight.step(7, 2), 127);
        book.is("step(7, 3)", eight.step(7, 3), 999);
        book.says("Calls that are refused answer, the first of these that fits");
        book.says("They change nothing.");
        book.says("UNKNOWN; OUTSIDE.");
        book.refused(Scene.NEW, "step(0, 0)", y -> y.step(0, 0), UNKNOWN);
        for (int what : Book.beyond(0, 3)) {
            book.refused(Scene.RICH, "step(0, " + what + ")", y -> y.step(0, what), OUTSIDE);
            book.refused(Scene.RICH, "step(4, " + what + ")", y -> y.step(4, what), OUTSIDE);
            book.refused(Scene.RICH, "step(5, " + what + "): both fit", y -> y.step(5, what), UNKNOWN);
        }
        for (int i : Book.beyond(0, 4)) {
            book.refused(Scene.RICH, "step(" + i + ", 0)", y -> y.step(i, 0), UNKNOWN);
        }
        for (int i : Book.beyond(0, 7)) {
            book.refused(Scene.FULL, "step(" + i + ", 3)", y -> y.step(i, 3), UNKNOWN);
        }
    }
}

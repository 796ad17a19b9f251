/** Edges of promises 7 to 11: ITEMS. */
final class ItemEdges {
    private static final int NONE = -6, UNKNOWN = -1, OUTSIDE = -2, STATE = -3, FULL = -4, NO = -5;

    private final Book book;

    ItemEdges(Book book) {
        this.book = book;
    }

    void all() {
        item();
        itemRefused();
        known();
        knownRefused();
        settle();
        settleRefused();
        show();
        ofItem();
        ofItemRefused();
        open();
        ends();
    }

    private void item() {
        book.promise(7, "item", "An ITEM: its number.");
        book.says("ITEMS, 24 at most, numbered from 0 on: of a STEP, for a THING (0 to 9; one of a STEP and a THING)");
        HandsHall x = Due.of("a:C4!0;b:C3!0;c:C2!0;d:K!0;e:O!0;f:K!0;g:K!0;h:K<abcdefg!999");
        book.is("item(0, 0)", x.item(0, 0), 0);
        book.is("item(0, 9): another THING", x.item(0, 9), 1);
        book.is("item(7, 0): another STEP", x.item(7, 0), 2);
        book.is("item(7, 9)", x.item(7, 9), 3);
        for (int n = 4; n < 24; n++) {
            book.is("item, the " + n + "th", x.item(1 + (n - 4) / 10, (n - 4) % 10), n);
        }
        book.is("told(2)", x.told(2), 24);
        book.is("item(3, 0), beyond 24", x.item(3, 0), FULL);
        book.is("told(2) behind it", x.told(2), 24);
        book.is("its THING", x.ofItem(3, 1), 9);
        book.is("its STEP", x.ofItem(3, 0), 7);
    }

    private void itemRefused() {
        book.says("UNKNOWN: the STEP; OUTSIDE; FULL; NO: there is one of that STEP and THING.");
        book.refused(Scene.NEW, "item(0, 0)", x -> x.item(0, 0), UNKNOWN);
        for (int step : Book.beyond(0, 4)) {
            book.refused(Scene.RICH, "item(" + step + ", 6)", x -> x.item(step, 6), UNKNOWN);
            book.refused(Scene.RICH, "item(" + step + ", 10): OUTSIDE fits too", x -> x.item(step, 10), UNKNOWN);
        }
        for (int step : Book.beyond(0, 7)) {
            book.refused(Scene.FULL, "item(" + step + ", 0): FULL fits too", x -> x.item(step, 0), UNKNOWN);
            book.refused(Scene.FULL, "item(" + step + ", -1): all fit", x -> x.item(step, -1), UNKNOWN);
        }
        for (int thing : Book.beyond(0, 9)) {
            book.refused(Scene.RICH, "item(0, " + thing + ")", x -> x.item(0, thing), OUTSIDE);
            book.refused(Scene.FULL, "item(3, " + thing + "): FULL fits too", x -> x.item(3, thing), OUTSIDE);
        }
        book.refused(Scene.FULL, "item(3, 0)", x -> x.item(3, 0), FULL);
        book.refused(Scene.FULL, "item(7, 9)", x -> x.item(7, 9), FULL);
        book.refused(Scene.FULL, "item(0, 0): NO fits too", x -> x.item(0, 0), FULL);
        book.refused(Scene.FULL, "item(2, 3): NO fits too", x -> x.item(2, 3), FULL);
        book.refused(Scene.RICH, "item(0, 0)", x -> x.item(0, 0), NO);
        book.refused(Scene.RICH, "item(3, 5), the last", x -> x.item(3, 5), NO);
        book.refused(Scene.SINCE, "item(2, 4), made since", x -> x.item(2, 4), NO);
    }

    private void known() {
        book.promise(8, "known", "An ITEM is KNOWN: 1.");
        book.says("LABELS 0 on, as many as its KIND has");
        String[] kinds = {"K", "O", "C2", "C3", "C4"};
        int[] labels = {2, 2, 2, 3, 4};
        for (int k = 0; k < 5; k++) {
            for (int label = 0; label < labels[k]; label++) {
                HandsHall x = Due.of("a:" + kinds[k] + "!0", 1, 0);
                book.is("known(0, " + label + ") of " + kinds[k], x.known(0, label), 1);
                book.is("ofItem(0, 3)", x.ofItem(0, 3), label);
                book.is("ofItem(0, 4)", x.ofItem(0, 4), NONE);
            }
            int beyond = labels[k];
            book.is("known(0, " + beyond + ")", Due.of("a:" + kinds[k] + "!0", 1, 0).known(0, beyond), UNKNOWN);
        }
        HandsHall full = Scene.FULL.make();
        book.is("known(22, 1), nearly the last", full.known(22, 1), 1);
        HandsHall x = Scene.RICH.make();
        book.is("not OPEN", x.ofItem(7, 5), 0);
        book.is("known(7, 0) of one that is not OPEN", x.known(7, 0), 1);
        book.is("known(8, 1) of one without answers", x.known(8, 1), 1);
        book.says("its LABEL is told ahead of all answers to it");
        x.back(0, 6);
        x.back(3, 6);
        book.is("known(6, 0), all taken back", x.known(6, 0), 1);
    }

    private void knownRefused() {
        book.says("UNKNOWN; STATE: it has an answer, is KNOWN or SETTLED.");
        book.refused(Scene.NEW, "known(0, 0)", x -> x.known(0, 0), UNKNOWN);
        for (int item : Book.beyond(0, 9)) {
            book.refused(Scene.RICH, "known(" + item + ", 0)", x -> x.known(item, 0), UNKNOWN);
        }
        for (int item : Book.beyond(0, 23)) {
            book.refused(Scene.FULL, "known(" + item + ", 0)", x -> x.known(item, 0), UNKNOWN);
        }
        for (int label : Book.beyond(0, 1)) {
            book.refused(Scene.RICH, "known(8, " + label + ")", x -> x.known(8, label), UNKNOWN);
            book.refused(Scene.RICH, "known(2, " + label + ") of a KNOWN one", x -> x.known(2, label), UNKNOWN);
            book.refused(Scene.RICH, "known(6, " + label + ") of one answered", x -> x.known(6, label), UNKNOWN);
        }
        for (int label : Book.beyond(0, 2)) {
            book.refused(Scene.RICH, "known(5, " + label + ") of a SETTLED one", x -> x.known(5, label), UNKNOWN);
        }
        for (int label : Book.beyond(0, 3)) {
            book.refused(Scene.RICH, "known(9, " + label + ")", x -> x.known(9, label), UNKNOWN);
        }
        book.refused(Scene.RICH, "known(0, 0): answered", x -> x.known(0, 0), STATE);
        book.refused(Scene.RICH, "known(0, 1): answered so", x -> x.known(0, 1), STATE);
        book.refused(Scene.FULL, "known(23, 1): answered by the last HAND alone", x -> x.known(23, 1), STATE);
        Scene first = new Scene("answered by the first HAND alone", x -> {
            Scene.RICH.play(x);
            x.answer(0, 8, 0);
        });
        book.refused(first, "known(8, 0): answered by the first HAND alone", x -> x.known(8, 0), STATE);
        book.refused(Scene.RICH, "known(2, 0): KNOWN", x -> x.known(2, 0), STATE);
        book.refused(Scene.RICH, "known(2, 1): KNOWN so", x -> x.known(2, 1), STATE);
        book.refused(Scene.RICH, "known(5, 0): SETTLED", x -> x.known(5, 0), STATE);
        book.refused(Scene.RICH, "known(5, 2): SETTLED so", x -> x.known(5, 2), STATE);
        Scene zero = new Scene("LABELS 0", x -> {
            Scene.RICH.play(x);
            x.known(8, 0);
            x.settle(7, 0);
        });
        book.refused(zero, "known(8, 0): KNOWN to be 0", x -> x.known(8, 0), STATE);
        book.refused(zero, "known(7, 1): SETTLED to 0", x -> x.known(7, 1), STATE);
        Scene out = new Scene("answered by one PUT OUT", x -> {
            Scene.RICH.play(x);
            x.back(0, 6);
        });
        book.refused(out, "known(6, 1): answered by one PUT OUT", x -> x.known(6, 1), STATE);
    }

    private void settle() {
        book.promise(9, "settle", "An ITEM is SETTLED: which LABEL it was SETTLED to ahead (NONE).");
        HandsHall x = Scene.RICH.make();
        book.is("settle(4, 0), not OPEN", x.settle(4, 0), NONE);
        book.is("ofItem(4, 4)", x.ofItem(4, 4), 0);
        book.is("settle(4, 3): it was 0", x.settle(4, 3), 0);
        book.is("settle(4, 3) again", x.settle(4, 3), 3);
        book.is("settle(4, 1)", x.settle(4, 1), 3);
        book.is("ofItem(4, 3)", x.ofItem(4, 3), NONE);
        book.is("settle(0, 2), answered", x.settle(0, 2), NONE);
        book.is("answers stay", x.ofItem(0, 6), 3);
        book.is("settle(5, 0), SETTLED to 2", x.settle(5, 0), 2);
        HandsHall full = Scene.FULL.make();
        book.is("settle(23, 1), the last", full.settle(23, 1), NONE);
        book.is("ofItem(23, 4)", full.ofItem(23, 4), 1);
        book.says("its LABEL is that from then on");
        for (int label = 0; label < 4; label++) {
            HandsHall y = Due.of("a:C4!0", 1, 2);
            Due.answers(y, 0, "2");
            Due.answers(y, 1, "2");
            y.join();
            y.settle(0, label);
            book.is("END", y.ofItem(0, 7), label);
            book.is("SURE", y.ofItem(0, 8), 1000);
            y.join();
            book.is("END by a JOINING", y.ofItem(0, 7), label);
            book.is("SURE by a JOINING", y.ofItem(0, 8), 1000);
        }
    }

    private void settleRefused() {
        book.says("UNKNOWN; STATE: it is KNOWN.");
        book.refused(Scene.NEW, "settle(0, 0)", x -> x.settle(0, 0), UNKNOWN);
        for (int item : Book.beyond(0, 9)) {
            book.refused(Scene.RICH, "settle(" + item + ", 0)", x -> x.settle(item, 0), UNKNOWN);
        }
        for (int item : Book.beyond(0, 23)) {
            book.refused(Scene.FULL, "settle(" + item + ", 0)", x -> x.settle(item, 0), UNKNOWN);
        }
        for (int label : Book.beyond(0, 1)) {
            book.refused(Scene.RICH, "settle(6, " + label + ")", x -> x.settle(6, label), UNKNOWN);
            book.refused(Scene.RICH, "settle(2, " + label + "): STATE fits too", x -> x.settle(2, label), UNKNOWN);
        }
        for (int label : Book.beyond(0, 2)) {
            book.refused(Scene.RICH, "settle(5, " + label + ")", x -> x.settle(5, label), UNKNOWN);
        }
        for (int label : Book.beyond(0, 3)) {
            book.refused(Scene.RICH, "settle(9, " + label + ")", x -> x.settle(9, label), UNKNOWN);
        }
        book.says("KNOWN ones are not SETTLED");
        book.refused(Scene.RICH, "settle(2, 0)", x -> x.settle(2, 0), STATE);
        book.refused(Scene.RICH, "settle(2, 1): KNOWN so", x -> x.settle(2, 1), STATE);
        book.refused(Scene.RICH, "settle(3, 1): KNOWN to be 0", x -> x.settle(3, 1), STATE);
    }

    private void show() {
        book.promise(10, "show", "PARTS of an ITEM: which they were. UNKNOWN; OUTSIDE: 0 to 15.");
        book.says("which of four parts of the guide it shows (bits, 0 at first)");
        HandsHall x = Scene.FULL.make();
        for (int item : new int[] {0, 1, 23}) {
            book.is("show(" + item + ", 15): 0 at first", x.show(item, 15), 0);
            book.is("show(" + item + ", 0)", x.show(item, 0), 15);
            for (int parts = 1; parts <= 15; parts++) {
                book.is("show(" + item + ", " + parts + ")", x.show(item, parts), parts - 1);
                book.is("ofItem(" + item + ", 9)", x.ofItem(item, 9), parts);
            }
        }
        book.is("another's stay", x.ofItem(22, 9), 0);
        HandsHall rich = Scene.RICH.make();
        book.is("of a KNOWN one", rich.show(2, 0), 5);
        book.is("of a SETTLED one", rich.show(5, 1), 0);
        book.is("of one that is not OPEN", rich.show(7, 1), 0);
        book.refused(Scene.NEW, "show(0, 0)", y -> y.show(0, 0), UNKNOWN);
        for (int item : Book.beyond(0, 9)) {
            book.refused(Scene.RICH, "show(" + item + ", 1)", y -> y.show(item, 1), UNKNOWN);
            book.refused(Scene.RICH, "show(" + item + ", 16): both fit", y -> y.show(item, 16), UNKNOWN);
        }
        for (int item : Book.beyond(0, 23)) {
            book.refused(Scene.FULL, "show(" + item + ", 1)", y -> y.show(item, 1), UNKNOWN);
        }
        for (int parts : Book.beyond(0, 15)) {
            book.refused(Scene.RICH, "show(0, " + parts + ")", y -> y.show(0, parts), OUTSIDE);
            book.refused(Scene.RICH, "show(8, " + parts + ")", y -> y.show(8, parts), OUTSIDE);
        }
    }

    private void ofItem() {
        book.promise(11, "ofItem", "Of an ITEM: 0 STEP, 1 THING, 2 LABELS, 3 KNOWN LABEL (NONE), 4 SETTLED (NONE), "
            + "5 whether OPEN (1, 0), 6 answers that COUNT, 7 END, 8 SURE, 9 PARTS.");
        HandsHall x = Scene.RICH.make();
        int[][] want = {{0, 0, 3, NONE, NONE, 1, 3}, {1, 0, 2, NONE, NONE, 1, 0}, {2, 0, 2, 1, NONE, 1, 3},
            {2, 1, 2, 0, NONE, 1, 3}, {3, 0, 4, NONE, NONE, 0, 0}, {0, 1, 3, NONE, 2, 1, 0},
            {2, 2, 2, NONE, NONE, 1, 1}, {4, 0, 2, NONE, NONE, 0, 0}, {2, 3, 2, NONE, NONE, 1, 0},
            {3, 5, 4, NONE, NONE, 0, 0}};
        for (int item = 0; item < want.length; item++) {
            for (int what = 0; what < want[item].length; what++) {
                book.is("ofItem(" + item + ", " + what + ")", x.ofItem(item, what), want[item][what]);
            }
        }
        book.says("Answers COUNT, if their HAND is not PUT OUT.");
        book.is("answers to 0, one of them out", x.ofItem(0, 6), 3);
        x.out(3, false);
        book.is("answers to 0, it came back", x.ofItem(0, 6), 4);
        for (int hand = 0; hand < 4; hand++) {
            x.out(hand, true);
        }
        book.is("answers to 0, all out", x.ofItem(0, 6), 0);
        HandsHall ten = Scene.FULL.make();
        book.is("answers to 0, of ten", ten.ofItem(0, 6), 10);
        book.is("answers to 23, of one", ten.ofItem(23, 6), 1);
    }

    private void ofItemRefused() {
        book.says("UNKNOWN; OUTSIDE.");
        book.refused(Scene.NEW, "ofItem(0, 0)", x -> x.ofItem(0, 0), UNKNOWN);
        for (int what : Book.beyond(0, 9)) {
            book.refused(Scene.RICH, "ofItem(0, " + what + ")", x -> x.ofItem(0, what), OUTSIDE);
            book.refused(Scene.RICH, "ofItem(9, " + what + ")", x -> x.ofItem(9, what), OUTSIDE);
            book.refused(Scene.RICH, "ofItem(10, " + what + "): both fit", x -> x.ofItem(10, what), UNKNOWN);
        }
        for (int item : Book.beyond(0, 9)) {
            book.refused(Scene.RICH, "ofItem(" + item + ", 8)", x -> x.ofItem(item, 8), UNKNOWN);
        }
        for (int item : Book.beyond(0, 23)) {
            book.refused(Scene.FULL, "ofItem(" + item + ", 5)", x -> x.ofItem(item, 5), UNKNOWN);
        }
    }

    /** One answer, one TURN: SURE is 646 (JoiningTest.oneAnswer). */
    private void open() {
        book.says("each of these is there, and its SURE is at least the number of the first ITEM's own STEP, "
            + "by the latest JOINING");
        HandsHall x = Due.of("a:K!9;c:K<a!646;d:K<a!647;e:K<a!500;f:K<ac!0;g:K<a!999");
        for (int step = 1; step < 6; step++) {
            x.item(step, 0);
            book.is("OPEN of STEP " + step + ", what it NEEDS is not there", x.ofItem(step - 1, 5), 0);
        }
        x.item(0, 1);
        book.is("OPEN: one of another THING does not help", x.told(5), 32);
        book.is("item(0, 0)", x.item(0, 0), 6);
        book.is("OPEN with SURE 500: 500, and 0 by two", x.told(5), 4 + 8 + 32 + 64);
        x.hand();
        x.set(2, 1);
        x.answer(0, 6, 1);
        book.is("OPEN by the latest JOINING: there was none", x.told(5), 4 + 8 + 32 + 64);
        x.join();
        book.is("SURE", x.ofItem(6, 8), 646);
        book.is("OPEN with SURE 646: 646, not 647", x.told(5), 1 + 4 + 8 + 32 + 64);
        x.back(0, 6);
        book.is("OPEN by the latest JOINING", x.told(5), 1 + 4 + 8 + 32 + 64);
        x.join();
        book.is("OPEN with SURE 500 again", x.told(5), 4 + 8 + 32 + 64);
        x.settle(6, 1);
        book.is("OPEN with SURE 1000: 999 too", x.told(5), 127);
    }

    private void ends() {
        book.says("An ITEM's END: the LABEL with the greatest SHARE, the first such; SURE: that by 1000, cut.");
        HandsHall x = Due.of("a:C2!0;b:C3!0;c:C4!0");
        int[] sure = {500, 333, 250};
        for (int step = 0; step < 3; step++) {
            x.item(step, 0);
            book.is("END: the first such", x.ofItem(step, 7), 0);
            book.is("SURE: cut", x.ofItem(step, 8), sure[step]);
        }
        book.says("of ITEMS made since: as at first without answers");
        x.hand();
        x.join();
        book.is("item(2, 1)", x.item(2, 1), 3);
        x.answer(0, 3, 2);
        book.is("END of one made since", x.ofItem(3, 7), 0);
        book.is("SURE of one made since", x.ofItem(3, 8), 250);
        book.says("ITEMS that are KNOWN or SETTLED since have their LABEL with 1000");
        x.settle(3, 3);
        x.known(1, 2);
        x.known(0, 1);
        int[] end = {1, 2, 0, 3};
        int[] then = {1000, 1000, 250, 1000};
        for (int item = 0; item < 4; item++) {
            book.is("END of " + item, x.ofItem(item, 7), end[item]);
            book.is("SURE of " + item, x.ofItem(item, 8), then[item]);
        }
    }
}

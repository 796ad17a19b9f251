/** Edges of promises 12 to 16: HANDS and their answers. */
final class HandEdges {
    private static final int NONE = -6, UNKNOWN = -1, STATE = -3, FULL = -4, NO = -5;

    /** ITEM 1 was OPEN with SURE 646 and is answered by both; it is not OPEN any more, HAND 1 is out. */
    private static final Scene SHUT = new Scene("shut", x -> {
        Due.say(x, "a:K!0;b:C3<a!600");
        x.task();
        x.item(0, 0);
        x.item(1, 0);
        Due.hands(x, 3);
        x.set(2, 1);
        x.answer(0, 0, 1);
        x.join();
        x.answer(0, 1, 2);
        x.answer(1, 1, 0);
        x.back(0, 0);
        x.join();
        x.out(1, true);
    });

    private final Book book;

    HandEdges(Book book) {
        this.book = book;
    }

    void all() {
        hand();
        out();
        answer();
        answerUnknown();
        answerRefused();
        back();
        said();
    }

    private void hand() {
        book.promise(12, "hand", "A HAND: its number. FULL.");
        book.says("HANDS, 10 at most, numbered from 0 on");
        HandsHall x = new HandsHall();
        for (int n = 0; n < 10; n++) {
            book.is("told(3)", x.told(3), n);
            book.is("hand()", x.hand(), n);
        }
        book.is("hand(), the 11th", x.hand(), FULL);
        book.is("told(3)", x.told(3), 10);
        book.refused(Scene.FULL, "hand() when full", HandsHall::hand, FULL);
        HandsHall y = Scene.FULL.make();
        y.out(9, true);
        y.out(0, true);
        book.is("hand() when full, though two are out", y.hand(), FULL);
    }

    private void out() {
        book.promise(13, "out", "A HAND is PUT OUT, or comes back: whether it was out (1, 0). UNKNOWN.");
        HandsHall x = Scene.FULL.make();
        for (int hand : new int[] {0, 9}) {
            book.is("out(" + hand + ", false): it was in", x.out(hand, false), 0);
            book.is("out(" + hand + ", true)", x.out(hand, true), 0);
            book.is("out(" + hand + ", true) again", x.out(hand, true), 1);
            book.is("out(" + hand + ", false)", x.out(hand, false), 1);
            book.is("out(" + hand + ", false) again", x.out(hand, false), 0);
        }
        for (boolean is : new boolean[] {true, false}) {
            book.refused(Scene.NEW, "out(0, " + is + ")", y -> y.out(0, is), UNKNOWN);
            for (int hand : Book.beyond(0, 3)) {
                book.refused(Scene.RICH, "out(" + hand + ", " + is + ")", y -> y.out(hand, is), UNKNOWN);
            }
            for (int hand : Book.beyond(0, 9)) {
                book.refused(Scene.FULL, "out(" + hand + ", " + is + ")", y -> y.out(hand, is), UNKNOWN);
            }
        }
        book.says("Answers COUNT, if their HAND is not PUT OUT.");
        book.is("answers of all", x.told(4), 31);
        x.out(9, true);
        book.is("answers but of HAND 9", x.told(4), 27);
        for (int hand = 0; hand < 10; hand++) {
            x.out(hand, true);
        }
        book.is("answers, all are out", x.told(4), 0);
        x.out(9, false);
        book.is("answers of HAND 9, back", x.told(4), 4);
    }

    private void answer() {
        book.promise(14, "answer", "An answer: 1.");
        book.says("A HAND answers an OPEN ITEM with a LABEL once");
        for (int label = 0; label < 4; label++) {
            HandsHall x = Scene.FULL.make();
            book.is("answer(0, 3, " + label + ")", x.answer(0, 3, label), 1);
            book.is("said(0, 3)", x.said(0, 3), label);
            book.is("answer(9, 9, " + label + ")", x.answer(9, 9, label), 1);
            book.is("answer(0, 23, " + label % 2 + ")", x.answer(0, 23, label % 2), 1);
        }
        HandsHall x = Scene.RICH.make();
        book.is("to a SETTLED one", x.answer(0, 5, 0), 1);
        x.known(8, 0);
        book.is("to a KNOWN one", x.answer(0, 8, 1), 1);
        HandsHall all = Due.of("a:K!0;b:K!0;c:K!0", 24, 10);
        for (int n = 0; n < 240; n++) {
            book.is("answer, the " + n + "th", all.answer(n / 24, n % 24, n % 2), 1);
        }
        book.is("all are answered", all.told(4), 240);
        book.is("answer(9, 23, 0) beyond that", all.answer(9, 23, 0), NO);
    }

    private void answerUnknown() {
        book.says("UNKNOWN; STATE: the ITEM is not OPEN, or the HAND is PUT OUT; NO: it answered.");
        book.refused(Scene.NEW, "answer(0, 0, 0)", x -> x.answer(0, 0, 0), UNKNOWN);
        for (int hand : Book.beyond(0, 3)) {
            book.refused(Scene.RICH, "answer(" + hand + ", 8, 0)", x -> x.answer(hand, 8, 0), UNKNOWN);
            book.refused(Scene.RICH, "answer(" + hand + ", 7, 0): not OPEN", x -> x.answer(hand, 7, 0), UNKNOWN);
        }
        for (int hand : Book.beyond(0, 9)) {
            book.refused(Scene.FULL, "answer(" + hand + ", 22, 0)", x -> x.answer(hand, 22, 0), UNKNOWN);
        }
        for (int item : Book.beyond(0, 9)) {
            book.refused(Scene.RICH, "answer(0, " + item + ", 0)", x -> x.answer(0, item, 0), UNKNOWN);
            book.refused(Scene.RICH, "answer(3, " + item + ", 0): PUT OUT", x -> x.answer(3, item, 0), UNKNOWN);
        }
        for (int item : Book.beyond(0, 23)) {
            book.refused(Scene.FULL, "answer(0, " + item + ", 0)", x -> x.answer(0, item, 0), UNKNOWN);
        }
        for (int label : Book.beyond(0, 1)) {
            book.refused(Scene.RICH, "answer(0, 8, " + label + ")", x -> x.answer(0, 8, label), UNKNOWN);
            book.refused(Scene.RICH, "answer(0, 7, " + label + "): not OPEN", x -> x.answer(0, 7, label), UNKNOWN);
            book.refused(Scene.RICH, "answer(3, 8, " + label + "): PUT OUT", x -> x.answer(3, 8, label), UNKNOWN);
            book.refused(Scene.RICH, "answer(0, 2, " + label + "): answered", x -> x.answer(0, 2, label), UNKNOWN);
        }
        for (int label : Book.beyond(0, 2)) {
            book.refused(Scene.RICH, "answer(0, 5, " + label + ")", x -> x.answer(0, 5, label), UNKNOWN);
            book.refused(SHUT, "answer(1, 1, " + label + "): all fit", x -> x.answer(1, 1, label), UNKNOWN);
        }
        for (int label : Book.beyond(0, 3)) {
            book.refused(Scene.FULL, "answer(0, 5, " + label + ")", x -> x.answer(0, 5, label), UNKNOWN);
        }
    }

    private void answerRefused() {
        book.refused(Scene.RICH, "answer(0, 7, 0): not OPEN", x -> x.answer(0, 7, 0), STATE);
        book.refused(Scene.RICH, "answer(1, 9, 3): what it NEEDS is not there", x -> x.answer(1, 9, 3), STATE);
        book.refused(Scene.RICH, "answer(3, 8, 0): PUT OUT", x -> x.answer(3, 8, 0), STATE);
        book.refused(Scene.RICH, "answer(3, 7, 0): not OPEN, PUT OUT", x -> x.answer(3, 7, 0), STATE);
        book.refused(Scene.RICH, "answer(3, 0, 2): PUT OUT, and it answered", x -> x.answer(3, 0, 2), STATE);
        book.refused(SHUT, "answer(0, 1, 2): not OPEN, and it answered", x -> x.answer(0, 1, 2), STATE);
        book.refused(SHUT, "answer(1, 1, 2): all of that", x -> x.answer(1, 1, 2), STATE);
        book.refused(SHUT, "answer(2, 1, 2): not OPEN any more", x -> x.answer(2, 1, 2), STATE);
        book.refused(Scene.RICH, "answer(0, 0, 1): it answered so", x -> x.answer(0, 0, 1), NO);
        book.refused(Scene.RICH, "answer(0, 0, 0): it answered", x -> x.answer(0, 0, 0), NO);
        book.refused(Scene.RICH, "answer(2, 0, 1): it answered 0", x -> x.answer(2, 0, 1), NO);
        book.refused(Scene.FULL, "answer(9, 23, 0): it answered", x -> x.answer(9, 23, 0), NO);
    }

    private void back() {
        book.promise(15, "back", "An answer is taken back: which it was. UNKNOWN; NO: there is none.");
        book.says("it may be taken back (then it may answer anew)");
        HandsHall x = Scene.FULL.make();
        book.is("back(9, 23)", x.back(9, 23), 1);
        book.is("back(9, 23) again", x.back(9, 23), NO);
        book.is("said(9, 23)", x.said(9, 23), NONE);
        book.is("answer(9, 23, 0) anew", x.answer(9, 23, 0), 1);
        book.is("back(9, 23): 0 is an answer", x.back(9, 23), 0);
        book.is("told(4)", x.told(4), 30);
        book.is("back(1, 1)", x.back(1, 1), 3);
        x = SHUT.make();
        book.is("not OPEN any more", x.back(0, 1), 2);
        book.is("not OPEN any more, and it is out", x.back(1, 1), 0);
        book.is("to answer anew it must be OPEN", x.answer(0, 1, 2), STATE);
        x = Scene.RICH.make();
        book.is("of one that is out", x.back(3, 0), 2);
        book.is("of a KNOWN ITEM", x.back(0, 2), 1);
        x.settle(0, 1);
        book.is("of a SETTLED ITEM", x.back(0, 0), 1);
        book.refused(Scene.NEW, "back(0, 0)", y -> y.back(0, 0), UNKNOWN);
        for (int hand : Book.beyond(0, 3)) {
            book.refused(Scene.RICH, "back(" + hand + ", 0)", y -> y.back(hand, 0), UNKNOWN);
        }
        for (int item : Book.beyond(0, 9)) {
            book.refused(Scene.RICH, "back(0, " + item + ")", y -> y.back(0, item), UNKNOWN);
        }
        for (int hand : Book.beyond(0, 9)) {
            book.refused(Scene.FULL, "back(" + hand + ", 23)", y -> y.back(hand, 23), UNKNOWN);
        }
        for (int item : Book.beyond(0, 23)) {
            book.refused(Scene.FULL, "back(9, " + item + ")", y -> y.back(9, item), UNKNOWN);
        }
        book.refused(Scene.RICH, "back(0, 8)", y -> y.back(0, 8), NO);
        book.refused(Scene.RICH, "back(3, 8), out", y -> y.back(3, 8), NO);
        book.refused(Scene.RICH, "back(2, 6), taken back already", y -> y.back(2, 6), NO);
        book.refused(Scene.SINCE, "back(4, 10), both came since", y -> y.back(4, 10), NO);
    }

    private void said() {
        book.promise(16, "said", "What a HAND answered to an ITEM; NONE. UNKNOWN.");
        HandsHall x = Scene.FULL.make();
        book.is("said(9, 23)", x.said(9, 23), 1);
        book.is("said(9, 22)", x.said(9, 22), NONE);
        book.is("said(8, 23)", x.said(8, 23), NONE);
        book.is("said(0, 0)", x.said(0, 0), 1);
        x = SHUT.make();
        book.is("0 is an answer, though it is out and the ITEM is not OPEN", x.said(1, 1), 0);
        book.is("taken back", x.said(0, 0), NONE);
        x = Scene.SINCE.make();
        book.is("both came since", x.said(4, 10), NONE);
        book.refused(Scene.NEW, "said(0, 0)", y -> y.said(0, 0), UNKNOWN);
        for (int hand : Book.beyond(0, 3)) {
            book.refused(Scene.RICH, "said(" + hand + ", 0)", y -> y.said(hand, 0), UNKNOWN);
        }
        for (int item : Book.beyond(0, 9)) {
            book.refused(Scene.RICH, "said(0, " + item + ")", y -> y.said(0, item), UNKNOWN);
        }
        for (int hand : Book.beyond(0, 9)) {
            book.refused(Scene.FULL, "said(" + hand + ", 23)", y -> y.said(hand, 23), UNKNOWN);
        }
        for (int item : Book.beyond(0, 23)) {
            book.refused(Scene.FULL, "said(9, " + item + ")", y -> y.said(9, item), UNKNOWN);
        }
    }
}

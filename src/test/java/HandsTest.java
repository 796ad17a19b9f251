/** Promises 12 to 16: HANDS and their answers. */
public final class HandsTest {
    private static final Due DUE = new Due("HandsTest");

    public static void main(String[] args) {
        hand();
        out();
        answer();
        back();
        said();
        DUE.end();
    }

    private static void hand() {
        HandsHall x = new HandsHall();
        for (int i = 0; i < 10; i++) {
            DUE.is("hand()", x.hand(), i);
        }
        DUE.is("hand(), the 11th", x.hand(), -4);
        DUE.is("told(3)", x.told(3), 10);
    }

    private static void out() {
        HandsHall x = Due.of("a:K!0", 2, 2);
        DUE.is("out(2, true)", x.out(2, true), -1);
        DUE.is("out(-1, false)", x.out(-1, false), -1);
        Due.answers(x, 0, "10");
        Due.answers(x, 1, "1");
        DUE.is("told(4)", x.told(4), 3);
        DUE.is("out(0, false)", x.out(0, false), 0);
        DUE.is("out(0, true)", x.out(0, true), 0);
        DUE.is("out(0, true) again", x.out(0, true), 1);
        DUE.is("told(4), one out", x.told(4), 1);
        DUE.is("the other is in", x.out(1, false), 0);
        DUE.is("out(0, false) again", x.out(0, false), 1);
        DUE.is("told(4), back", x.told(4), 3);
    }

    private static void answer() {
        HandsHall x = Due.of("a:C3!0;b:K<a!400");
        x.item(0, 0);
        x.item(1, 0);
        Due.hands(x, 2);
        DUE.is("answer(2, 0, 0)", x.answer(2, 0, 0), -1);
        DUE.is("answer(-1, 0, 0)", x.answer(-1, 0, 0), -1);
        DUE.is("answer(0, 2, 0)", x.answer(0, 2, 0), -1);
        DUE.is("answer(0, -1, 0)", x.answer(0, -1, 0), -1);
        DUE.is("answer(0, 0, 3)", x.answer(0, 0, 3), -1);
        DUE.is("answer(0, 0, -1)", x.answer(0, 0, -1), -1);
        DUE.is("answer(0, 1, 2): no such LABEL comes ahead of not OPEN", x.answer(0, 1, 2), -1);
        DUE.is("answer(0, 1, 1): not OPEN", x.answer(0, 1, 1), -3);
        DUE.is("answer(0, 0, 2)", x.answer(0, 0, 2), 1);
        DUE.is("answer(0, 0, 1): it answered", x.answer(0, 0, 1), -5);
        DUE.is("said(0, 0)", x.said(0, 0), 2);
        x.out(0, true);
        DUE.is("answer(0, 0, 1): PUT OUT comes ahead of NO", x.answer(0, 0, 1), -3);
        x.out(0, false);
        DUE.is("answer(1, 0, 2)", x.answer(1, 0, 2), 1);
        DUE.is("not joined yet", x.answer(0, 1, 1), -3);
        x.settle(0, 1);
        DUE.is("answer(0, 1, 1): OPEN by what is SETTLED", x.answer(0, 1, 1), 1);
        HandsHall y = Due.of("a:K!0", 1, 2);
        y.known(0, 1);
        DUE.is("to a KNOWN one", y.answer(0, 0, 0), 1);
        DUE.is("by another", y.answer(1, 0, 1), 1);
    }

    private static void back() {
        HandsHall x = Due.of("a:C3!0", 2, 2);
        DUE.is("back(2, 0)", x.back(2, 0), -1);
        DUE.is("back(-1, 0)", x.back(-1, 0), -1);
        DUE.is("back(0, 2)", x.back(0, 2), -1);
        DUE.is("back(0, -1)", x.back(0, -1), -1);
        DUE.is("back(0, 0)", x.back(0, 0), -5);
        x.answer(0, 0, 2);
        x.answer(1, 0, 1);
        DUE.is("back(0, 1)", x.back(0, 1), -5);
        DUE.is("back(0, 0)", x.back(0, 0), 2);
        DUE.is("back(0, 0) again", x.back(0, 0), -5);
        DUE.is("told(4)", x.told(4), 1);
        DUE.is("answer anew", x.answer(0, 0, 0), 1);
        x.out(0, true);
        DUE.is("back(0, 0) of one PUT OUT", x.back(0, 0), 0);
        DUE.is("the other's stays", x.said(1, 0), 1);
    }

    private static void said() {
        HandsHall x = Due.of("a:C3!0", 2, 2);
        DUE.is("said(2, 0)", x.said(2, 0), -1);
        DUE.is("said(-1, 0)", x.said(-1, 0), -1);
        DUE.is("said(0, 2)", x.said(0, 2), -1);
        DUE.is("said(0, -1)", x.said(0, -1), -1);
        DUE.is("said(1, 1)", x.said(1, 1), -6);
        x.answer(1, 1, 2);
        DUE.is("said(1, 1)", x.said(1, 1), 2);
        DUE.is("said(0, 1)", x.said(0, 1), -6);
        DUE.is("said(1, 0)", x.said(1, 0), -6);
        x.out(1, true);
        DUE.is("said(1, 1) of one PUT OUT", x.said(1, 1), 2);
    }
}

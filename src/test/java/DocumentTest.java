import java.io.IOException;
import java.nio.file.Files;
import java.nio.file.Path;

/** The whole document, sentence by sentence, in its order. Run from the project's root. */
public final class DocumentTest {
    private static final int CALLS = 512;

    private final Reader page;
    private final String source;

    private DocumentTest(Reader page, String source) {
        this.page = page;
        this.source = source;
    }

    public static void main(String[] args) throws IOException {
        Reader page = new Reader(Path.of("../shared/DOC.md"));
        new DocumentTest(page, Files.readString(Path.of("src/main/java/HandsHall.java"))).all();
        page.end();
    }

    private void all() {
        page.passes("# HandsHall ## What it is");
        whatItIs(story());
        fiveHundredAndTwelve();
        face();
        new DocumentTerms(page).all();
        groups();
        new DocumentPromises(page, source).all();
        notPromised();
    }

    /** Two STEPS; ITEMS 1 and 2 are KNOWN; HANDS 0 and 1 are right in both, HAND 2 in none. */
    private static HandsHall story() {
        HandsHall x = Due.of("a:C3!0;b:K<a!700");
        x.item(0, 0);
        x.item(0, 1);
        x.item(0, 2);
        x.item(1, 0);
        Due.known(x, ".20");
        x.show(1, 5);
        x.show(2, 2);
        Due.hands(x, 3);
        return x;
    }

    private void whatItIs(HandsHall x) {
        page.reads("Work cut small for many hands: a task's text cuts it into steps whose ends feed the next;");
        page.is("STEPS", x.told(1), 2);
        page.is("the second is not OPEN yet", x.answer(0, 3, 0), -3);
        page.reads("items that anyone can do, some of which the end is known, hidden among others;");
        String[] answers = {"120", "120", "202"};
        for (int hand = 0; hand < 3; hand++) {
            for (int item = 0; item < 3; item++) {
                page.is("answer of " + hand + " to " + item,
                    x.answer(hand, item, answers[hand].charAt(item) - '0'), 1);
            }
        }
        page.reads("unlike answers joined by tables of how often each hand says this where that is so, found in "
            + "turns till they rest;");
        page.is("join()", x.join(), 4);
        page.is("table(0, 3, 2, 2)", x.table(0, 3, 2, 2), 845);
        page.is("table(2, 3, 2, 0)", x.table(2, 3, 2, 0), 845);
        page.is("the END that the end feeds: OPEN", x.ofItem(3, 5), 1);
        page.reads("how sure each end is, which one more answer would help most;");
        page.is("END", x.ofItem(0, 7), 1);
        page.is("SURE", x.ofItem(0, 8), 989);
        x.item(0, 3);
        page.is("next(0)", x.next(0), 4);
        page.is("next(1)", x.next(1), 0);
        // The greatest by s are 839, 844, 845: 333333 * 2528 by 1000, less 333333.
        page.is("next(2)", x.next(2), 509332);
        page.reads("hands that guess or copy by exact odds, put out and back;");
        page.is("guessing(0, 1): 1 by 9", x.guessing(0, 1), 9);
        page.is("copying(0, 1, 1): 1 by 27", x.copying(0, 1, 1), 27);
        page.is("out(2, true)", x.out(2, true), 0);
        page.is("answers that COUNT", x.told(4), 6);
        page.is("out(2, false)", x.out(2, false), 1);
        page.is("answers that COUNT", x.told(4), 9);
        whatItIsElse(x);
    }

    private void whatItIsElse(HandsHall x) {
        page.reads("parts of a guide that are misread, versions dealt and compared;");
        page.is("misread(1)", x.misread(1), 7);
        page.is("misread(2)", x.misread(2), 0);
        page.is("deal(7)", x.deal(7), 2);
        // All 4 RIGHT ones of 6 answers are of VERSION 1: 1 by 15.
        page.is("better(0)", x.better(0), 1);
        page.is("better(1)", x.better(1), 15);
        page.reads("pay under which saying what one sees pays best, or a belief under which it does not;");
        page.is("belief(0)", x.belief(0), -6);
        x.pays(20, 1, -1);
        page.is("belief(0): 11 twentieths", x.belief(0), 11);
        page.is("belief(1)", x.belief(1), 20);
        page.reads("how many answers it takes;");
        page.is("plan(80, 95)", x.plan(80, 95), 7);
        page.reads("what leans on whom.");
        page.is("lean(1): HAND 0 says the same", x.lean(1), 0);
        x.answer(1, 4, 2);
        page.is("lean(1): ITEM 4 has no other answer", x.lean(1), 16);
        page.is("lean(2)", x.lean(2), 0);
    }

    private void fiveHundredAndTwelve() {
        page.reads("An object is used for at most 512 calls after it has been made; what later calls answer is free.");
        HandsHall x = Due.of("a:K!0", 1, 1);
        int calls = 5 + 1 + 1 + 1;
        while (calls < CALLS - 4) {
            page.is("answer, call " + (calls + 1), x.answer(0, 0, calls / 2 % 2), 1);
            page.is("back, call " + (calls + 2), x.back(0, 0), calls / 2 % 2);
            calls += 2;
        }
        page.is("answer, the 509th call", x.answer(0, 0, 1), 1);
        page.is("join, the 510th call", x.join(), 6);
        page.is("share, the 511th call", x.share(0, 1), 500000);
        page.is("told, the 512th call", x.told(4), 1);
    }

    private void face() {
        page.passes("## The public face java");
        page.reads("public final class HandsHall {");
        page.is("the source says so", source.contains("public final class HandsHall {"));
        int lines = 0;
        while (!page.isAt("}")) {
            String line = page.takes(";");
            boolean made = line.endsWith(")");
            page.is("the source says so", source.contains("\n    " + line + (made ? " {\n" : ";\n")));
            lines++;
        }
        page.reads("}");
        page.is("constants, constructor, methods", lines, 2 + 1 + 32);
        page.is("NONE, UNKNOWN, OUTSIDE, STATE, FULL, NO", HandsHall.NONE == -6 && HandsHall.UNKNOWN == -1
            && HandsHall.OUTSIDE == -2 && HandsHall.STATE == -3 && HandsHall.FULL == -4 && HandsHall.NO == -5);
        page.is("LOST", HandsHall.LOST, -1000000000000000000L);
    }

    /** The source has the calls under the document's five headings. */
    private void groups() {
        int calls = 0;
        int last = 0;
        while (page.isAt("Ahead of the calls ")) {
            String[] said = page.takes(".").split(" the interface says: ");
            int start = source.indexOf("    // " + said[1] + "\n");
            page.is(said[1] + " is there, behind the one ahead", start > last);
            int end = source.indexOf("    // ----", start + 1);
            for (String name : said[0].replace("Ahead of the calls", "").replaceAll("[` ]", "").split(",")) {
                int call = source.indexOf(" " + name + "(", start);
                page.is(name + " is under it", call > start && call < end);
                calls++;
            }
            last = start;
        }
        page.is("calls in all", calls, 32);
    }

    /** Words that leave things free: there is nothing to ask. */
    private void notPromised() {
        page.passes("## Not promised");
        page.passes("How the state is held inside the object is free, as are the speed of each call, the text of "
            + "toString and the behaviour of equals and hashCode.");
        page.passes("Use of one object from several threads at once is not promised to be safe.");
        page.passes("Nothing is promised beyond the answers and state changes described above, and nothing about an "
            + "object after its 512th call.");
    }
}

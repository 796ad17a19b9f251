/** What the tests share: a call's answer beside the one that is due, and ways to bring an object into a state. */
final class Due {
    private final String test;
    private int wrong = 0;
    private int asked = 0;

    Due(String test) {
        this.test = test;
    }

    void is(String call, long got, long want) {
        asked++;
        if (got != want) {
            wrong++;
            System.out.println(test + ": " + call + " answered " + got + ", due is " + want);
        }
    }

    /** Ends the program with 1 if an answer was not as due. */
    void end() {
        System.out.println(test + ": " + (wrong == 0 ? asked + " answers are as due" : wrong + " are not as due"));
        if (wrong != 0) {
            System.exit(1);
        }
    }

    /** Says all signs of a text. */
    static void say(HandsHall x, String text) {
        for (int i = 0; i < text.length(); i++) {
            x.say(text.charAt(i));
        }
    }

    /** A new object with a TASK. */
    static HandsHall of(String text) {
        HandsHall x = new HandsHall();
        say(x, text);
        if (x.task() < 1) {
            throw new IllegalStateException("no task: " + text);
        }
        return x;
    }

    /** A new object with a TASK of one STEP, so many ITEMS of it (THINGS from 0 on), so many HANDS. */
    static HandsHall of(String text, int items, int hands) {
        HandsHall x = of(text);
        for (int i = 0; i < items; i++) {
            x.item(i / 10, i % 10);
        }
        hands(x, hands);
        return x;
    }

    static void hands(HandsHall x, int hands) {
        for (int i = 0; i < hands; i++) {
            x.hand();
        }
    }

    /** A HAND answers ITEMS from 0 on with these LABELS ('.' for none). */
    static void answers(HandsHall x, int hand, String labels) {
        for (int i = 0; i < labels.length(); i++) {
            if (labels.charAt(i) != '.' && x.answer(hand, i, labels.charAt(i) - '0') != 1) {
                throw new IllegalStateException("no answer: " + hand + " to " + i);
            }
        }
    }

    /** ITEMS from 0 on are KNOWN with these LABELS ('.' for not). */
    static void known(HandsHall x, String labels) {
        for (int i = 0; i < labels.length(); i++) {
            if (labels.charAt(i) != '.' && x.known(i, labels.charAt(i) - '0') != 1) {
                throw new IllegalStateException("not known: " + i);
            }
        }
    }
}

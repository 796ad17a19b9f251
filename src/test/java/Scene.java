import java.util.ArrayList;
import java.util.List;
import java.util.function.Consumer;
import java.util.function.LongConsumer;

/**
 * A state that new objects are brought into, and all that can be seen of it. What is seen is cut into groups, each for
 * an object of its own, so that no object is used for more than 512 calls and a group may change what it looks at.
 */
final class Scene {
    /** A look at an object: what it answers, in turn. */
    private interface Group {
        void look(HandsHall x, LongConsumer seen);
    }

    private static final Group[] GROUPS = {Scene::plainOnes, Scene::items, Scene::shares, Scene::answers,
        Scene::tables, Scene::pairs, Scene::numbers, Scene::signs};

    static final Scene NEW = new Scene("new", x -> { });
    /** ITEMS of all kinds, some KNOWN, SETTLED, not OPEN; a HAND that is out; numbers set; joined; signs begun. */
    static final Scene RICH = new Scene("rich", Scene::rich);
    /** RICH, and an ITEM and a HAND that came since the JOINING. */
    static final Scene SINCE = new Scene("since", x -> {
        rich(x);
        x.item(2, 4);
        x.hand();
    });
    /** 60 signs, 8 STEPS, 24 ITEMS, 10 HANDS. */
    static final Scene FULL = new Scene("full", Scene::full);

    static final String SIXTY = "a:C4!0;b:C3!0;c:C2!0;d:K!0;e:O!0;f:K!0;g:K!0;h:K<abcdefg!999";

    private final String name;
    private final Consumer<HandsHall> play;
    private final List<List<Long>> seen = new ArrayList<>();

    Scene(String name, Consumer<HandsHall> play) {
        this.name = name;
        this.play = play;
    }

    @Override
    public String toString() {
        return name;
    }

    HandsHall make() {
        HandsHall x = new HandsHall();
        play(x);
        return x;
    }

    /** Brings a new object there. */
    void play(HandsHall x) {
        play.accept(x);
    }

    static int groups() {
        return GROUPS.length;
    }

    private static List<Long> look(int group, HandsHall x) {
        List<Long> answers = new ArrayList<>();
        GROUPS[group].look(x, answers::add);
        return answers;
    }

    /** The first look of a group at which an object is unlike one that was just made; -1 for none. */
    int unlike(int group, HandsHall x) {
        while (seen.size() < GROUPS.length) {
            seen.add(look(seen.size(), make()));
        }
        List<Long> now = look(group, x);
        for (int i = 0; i < now.size(); i++) {
            if (!now.get(i).equals(seen.get(group).get(i))) {
                return i;
            }
        }
        return -1;
    }

    private static void rich(HandsHall x) {
        Due.say(x, "c:C3!0;a:O<c!300;f:K!0;b:C4<af!501;g:K<c!999");
        x.task();
        int[][] items = {{0, 0}, {1, 0}, {2, 0}, {2, 1}, {3, 0}, {0, 1}, {2, 2}, {4, 0}, {2, 3}, {3, 5}};
        for (int[] i : items) {
            x.item(i[0], i[1]);
        }
        Due.known(x, "..10");
        x.settle(5, 2);
        x.show(0, 3);
        x.show(2, 5);
        x.show(3, 10);
        Due.hands(x, 4);
        Due.answers(x, 0, "1.10..1");
        Due.answers(x, 1, "1.10");
        Due.answers(x, 2, "0.01..0");
        Due.answers(x, 3, "2.0...1");
        x.out(3, true);
        int[] numbers = {7, 50, 20, 9, 8, 7};
        for (int which = 0; which < 6; which++) {
            x.set(which, numbers[which]);
        }
        x.pays(3, 100, -50);
        x.pays(17, 400, -30);
        x.deal(7);
        x.join();
        x.back(2, 6);
        Due.say(x, "d:K!1;e:C2<");
    }

    private static void full(HandsHall x) {
        Due.say(x, SIXTY);
        x.task();
        for (int i = 0; i < 24; i++) {
            x.item(i / 10, i % 10);
        }
        Due.hands(x, 10);
        Due.known(x, "1.2");
        for (int hand = 0; hand < 10; hand++) {
            Due.answers(x, hand, hand % 3 == 0 ? "112" : "132");
        }
        x.answer(9, 23, 1);
        x.join();
        Due.say(x, SIXTY);
    }

    private static void plainOnes(HandsHall x, LongConsumer seen) {
        for (int what = 0; what <= 5; what++) {
            seen.accept(x.told(what));
        }
        seen.accept(x.fault());
        for (int i = 0; i < 8; i++) {
            for (int what = 0; what <= 3; what++) {
                seen.accept(x.step(i, what));
            }
        }
        for (int n = 1; n <= 10; n++) {
            seen.accept(x.misread(n));
        }
        for (int what = 0; what <= 2; what++) {
            seen.accept(x.next(what));
            seen.accept(x.belief(what));
        }
        seen.accept(x.better(0));
        seen.accept(x.better(1));
    }

    private static void items(HandsHall x, LongConsumer seen) {
        for (int item = 0; item < 24; item++) {
            for (int what = 0; what <= 9; what++) {
                seen.accept(x.ofItem(item, what));
            }
        }
    }

    private static void shares(HandsHall x, LongConsumer seen) {
        for (int item = 0; item < 24; item++) {
            for (int label = 0; label < 4; label++) {
                seen.accept(x.share(item, label));
            }
        }
        for (int hand = 0; hand < 10; hand++) {
            for (int what = 0; what <= 3; what++) {
                seen.accept(x.right(hand, what));
            }
            seen.accept(x.coins(hand));
            seen.accept(x.guessing(hand, 0));
            seen.accept(x.guessing(hand, 1));
        }
    }

    private static void answers(HandsHall x, LongConsumer seen) {
        for (int hand = 0; hand < 10; hand++) {
            for (int item = 0; item < 24; item++) {
                seen.accept(x.said(hand, item));
            }
        }
    }

    private static void tables(HandsHall x, LongConsumer seen) {
        for (int hand = 0; hand < 10; hand++) {
            for (int labels = 2; labels <= 4; labels++) {
                for (int ts = 0; ts < labels * labels; ts++) {
                    seen.accept(x.table(hand, labels, ts / labels, ts % labels));
                }
            }
        }
    }

    private static void pairs(HandsHall x, LongConsumer seen) {
        for (int a = 0; a < 10; a++) {
            seen.accept(x.lean(a));
            for (int b = 0; b < a; b++) {
                seen.accept(x.copying(a, b, 0));
                seen.accept(x.copying(a, b, 1));
            }
        }
    }

    /** What just a call that changes it tells: who is out, the numbers; and, by a JOINING, what they lead to. */
    private static void numbers(HandsHall x, LongConsumer seen) {
        seen.accept(x.join());
        shares(x, seen);
        for (int hand = 0; hand < 10; hand++) {
            seen.accept(x.out(hand, false));
        }
        for (int which = 0; which < 6; which++) {
            seen.accept(x.set(which, 1));
        }
    }

    /** What the signs are: they are read as a TASK, as they are or with an end. */
    private static void signs(HandsHall x, LongConsumer seen) {
        int taken = x.task();
        seen.accept(taken);
        if (taken < 0 && x.told(0) > 0 && x.told(0) < 58) {
            Due.say(x, "d!9");
            seen.accept(x.task());
        }
        for (int i = 0; i < 8; i++) {
            for (int what = 0; what <= 3; what++) {
                seen.accept(x.step(i, what));
            }
        }
        seen.accept(x.wipe());
    }
}

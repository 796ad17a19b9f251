import java.math.BigInteger;
import java.util.ArrayList;
import java.util.HashMap;
import java.util.List;
import java.util.Map;

/**
 * The document once more, written apart from the class and in another way (lists and maps, THE FAULT by trying how a
 * text could go on, odds by going through all that could happen), to stand beside it in long runs of calls.
 */
final class Model {
    private static final int NONE = -6, UNKNOWN = -1, OUTSIDE = -2, STATE = -3, FULL = -4, NO = -5;
    private static final long LOST = -1000000000000000000L;

    private static final class Item {
        int step, thing, labels, known = NONE, settled = NONE, parts = 0;
        long[] shares;
    }

    private static final class Hand {
        boolean out = false;
        int version = 0;
        Map<Integer, Integer> said = new HashMap<>();
        /** By "labels t s"; null: no JOINING since the HAND came. */
        Map<String, Long> table = null;
    }

    /** What a JOINING finds. */
    private static final class Joined {
        List<long[]> shares = new ArrayList<>();
        List<Map<String, Long>> tables = new ArrayList<>();
        int turns;
        boolean rests;
    }

    private String signs = "";
    private String[] steps = new String[0];
    private List<Item> items = new ArrayList<>();
    private List<Hand> hands = new ArrayList<>();
    private boolean joinedSinceLastHand = false;
    private final int[] numbers = {10, 100, 30, 2, 3, 1};
    private final int[][] paid = new int[21][2];

    // ---- 1 tasks

    int say(int sign) {
        if (sign < 33 || sign > 126) return OUTSIDE;
        if (signs.length() == 60) return FULL;
        signs += (char) sign;
        return signs.length();
    }

    int wipe() {
        int n = signs.length();
        signs = "";
        return n;
    }

    private static boolean stands(String text) {
        String[] parts = text.split(";", -1);
        if (parts.length > 8) return false;
        String ahead = "";
        for (String p : parts) {
            if (!p.matches("[a-h]:(C[234]|K|O)(<[a-h]+)?![0-9]{1,3}")) return false;
            if (ahead.indexOf(p.charAt(0)) >= 0) return false;
            String named = p.contains("<") ? p.substring(p.indexOf('<') + 1, p.indexOf('!')) : "";
            for (int i = 0; i < named.length(); i++) {
                if (ahead.indexOf(named.charAt(i)) < 0) return false;
                if (i > 0 && named.charAt(i) <= named.charAt(i - 1)) return false;
            }
            ahead += p.charAt(0);
        }
        return true;
    }

    private static boolean canGoOn(String start) {
        for (String tail : new String[] {"", "0", "!0", "2!0", "K!0", ":K!0"}) {
            if (stands(start + tail)) return true;
        }
        for (char c = 'a'; c <= 'h'; c++) {
            if (stands(start + c + "!0") || stands(start + c + ":K!0")) return true;
        }
        return false;
    }

    int fault() {
        if (stands(signs)) return NONE;
        for (int i = 0; i < signs.length(); i++) {
            if (!canGoOn(signs.substring(0, i + 1))) return i;
        }
        return signs.length();
    }

    int task() {
        if (!stands(signs)) return NO;
        steps = signs.split(";");
        signs = "";
        items = new ArrayList<>();
        hands = new ArrayList<>();
        joinedSinceLastHand = false;
        return steps.length;
    }

    private int stepOf(char name) {
        for (int i = 0; i < steps.length; i++) {
            if (steps[i].charAt(0) == name) return i;
        }
        throw new IllegalStateException();
    }

    int step(int i, int what) {
        if (i < 0 || i >= steps.length) return UNKNOWN;
        String s = steps[i];
        if (what == 0) return "abcdefgh".indexOf(s.charAt(0));
        if (what == 1) return s.charAt(2) == 'C' ? Integer.parseInt(s.substring(3, 4)) : 2;
        if (what == 2) {
            int bits = 0;
            for (char c : needs(s).toCharArray()) bits += 1 << stepOf(c);
            return bits;
        }
        return what == 3 ? Integer.parseInt(s.substring(s.indexOf('!') + 1)) : OUTSIDE;
    }

    private static String needs(String s) {
        return s.contains("<") ? s.substring(s.indexOf('<') + 1, s.indexOf('!')) : "";
    }

    private Item find(int step, int thing) {
        for (Item it : items) {
            if (it.step == step && it.thing == thing) return it;
        }
        return null;
    }

    int item(int step, int thing) {
        if (step < 0 || step >= steps.length) return UNKNOWN;
        if (thing < 0 || thing > 9) return OUTSIDE;
        if (items.size() == 24) return FULL;
        if (find(step, thing) != null) return NO;
        Item it = new Item();
        it.step = step;
        it.thing = thing;
        it.labels = step(step, 1);
        it.shares = new long[it.labels];
        java.util.Arrays.fill(it.shares, 1000000 / it.labels);
        items.add(it);
        return items.size() - 1;
    }

    private Item get(int item) {
        return item >= 0 && item < items.size() ? items.get(item) : null;
    }

    private boolean noLabel(int item, int label) {
        return get(item) == null || label < 0 || label >= get(item).labels;
    }

    int known(int item, int label) {
        if (noLabel(item, label)) return UNKNOWN;
        for (Hand h : hands) {
            if (h.said.containsKey(item)) return STATE;
        }
        if (get(item).known != NONE || get(item).settled != NONE) return STATE;
        get(item).known = label;
        return 1;
    }

    int settle(int item, int label) {
        if (noLabel(item, label)) return UNKNOWN;
        if (get(item).known != NONE) return STATE;
        int was = get(item).settled;
        get(item).settled = label;
        return was;
    }

    int show(int item, int parts) {
        if (get(item) == null) return UNKNOWN;
        if (parts < 0 || parts > 15) return OUTSIDE;
        int was = get(item).parts;
        get(item).parts = parts;
        return was;
    }

    private static int end(long[] shares) {
        int best = 0;
        for (int i = 0; i < shares.length; i++) {
            if (shares[i] > shares[best]) best = i;
        }
        return best;
    }

    private int end(Item it) {
        return it.known != NONE ? it.known : it.settled != NONE ? it.settled : end(it.shares);
    }

    private long sure(Item it) {
        return it.known != NONE || it.settled != NONE ? 1000 : it.shares[end(it.shares)] / 1000;
    }

    private boolean open(Item it) {
        for (char c : needs(steps[it.step]).toCharArray()) {
            Item needed = find(stepOf(c), it.thing);
            if (needed == null || sure(needed) < step(it.step, 3)) return false;
        }
        return true;
    }

    private int counting(int item) {
        int n = 0;
        for (Hand h : hands) n += !h.out && h.said.containsKey(item) ? 1 : 0;
        return n;
    }

    int ofItem(int item, int what) {
        Item it = get(item);
        if (it == null) return UNKNOWN;
        if (what < 0 || what > 9) return OUTSIDE;
        long[] all = {it.step, it.thing, it.labels, it.known, it.settled, open(it) ? 1 : 0, counting(item), end(it),
            sure(it), it.parts};
        return (int) all[what];
    }

    // ---- 2 hands

    int hand() {
        if (hands.size() == 10) return FULL;
        hands.add(new Hand());
        joinedSinceLastHand = false;
        return hands.size() - 1;
    }

    private Hand who(int hand) {
        return hand >= 0 && hand < hands.size() ? hands.get(hand) : null;
    }

    int out(int hand, boolean is) {
        if (who(hand) == null) return UNKNOWN;
        int was = who(hand).out ? 1 : 0;
        who(hand).out = is;
        return was;
    }

    int answer(int hand, int item, int label) {
        if (who(hand) == null || noLabel(item, label)) return UNKNOWN;
        if (!open(get(item)) || who(hand).out) return STATE;
        return who(hand).said.putIfAbsent(item, label) == null ? 1 : NO;
    }

    int back(int hand, int item) {
        if (who(hand) == null || get(item) == null) return UNKNOWN;
        Integer was = who(hand).said.remove(item);
        return was == null ? NO : was;
    }

    int said(int hand, int item) {
        if (who(hand) == null || get(item) == null) return UNKNOWN;
        return who(hand).said.getOrDefault(item, NONE);
    }

    // ---- 3 joining

    int set(int which, int v) {
        int[] from = {1, 0, 1, 0, 0, 0};
        int[] to = {100, 100000, 60, 100, 100, 100};
        if (which < 0 || which > 5 || v < from[which] || v > to[which]) return OUTSIDE;
        int was = numbers[which];
        numbers[which] = v;
        return was;
    }

    private Joined joining() {
        Joined j = new Joined();
        for (int i = 0; i < items.size(); i++) {
            Item it = items.get(i);
            long[] start = new long[it.labels];
            int given = it.known != NONE ? it.known : it.settled;
            for (int t = 0; t < it.labels; t++) {
                if (given != NONE) {
                    start[t] = t == given ? 1000000 : 0;
                } else if (counting(i) > 0) {
                    int with = 0;
                    for (Hand h : hands) with += !h.out && h.said.getOrDefault(i, NONE) == t ? 1 : 0;
                    start[t] = 1000000L * with / counting(i);
                } else {
                    start[t] = 1000000 / it.labels;
                }
            }
            j.shares.add(start);
        }
        while (!j.rests && j.turns < numbers[2]) {
            turn(j);
            j.turns++;
        }
        return j;
    }

    private void turn(Joined j) {
        j.tables = new ArrayList<>();
        for (Hand h : hands) {
            Map<String, Long> table = new HashMap<>();
            for (int n = 2; n <= 4; n++) {
                for (int t = 0; t < n; t++) {
                    long[] said = new long[n];
                    long all = 0;
                    for (int s = 0; s < n; s++) {
                        said[s] = numbers[0] * 10000L;
                        for (int i = 0; i < items.size(); i++) {
                            if (!h.out && items.get(i).labels == n && h.said.getOrDefault(i, NONE) == s) {
                                said[s] += j.shares.get(i)[t];
                            }
                        }
                        all += said[s];
                    }
                    for (int s = 0; s < n; s++) table.put(n + " " + t + " " + s, 1000 * said[s] / all);
                }
            }
            j.tables.add(table);
        }
        long change = 0;
        for (int i = 0; i < items.size(); i++) {
            Item it = items.get(i);
            if (it.known == NONE && it.settled == NONE && counting(i) > 0) {
                long[] before = j.shares.get(i);
                long[] after = anew(j, i, it.labels);
                for (int t = 0; t < it.labels; t++) change = Math.max(change, Math.abs(after[t] - before[t]));
                j.shares.set(i, after);
            }
        }
        j.rests = change <= numbers[1];
    }

    private long[] anew(Joined j, int item, int n) {
        long[] shares = new long[n];
        java.util.Arrays.fill(shares, 1000000 / n);
        for (int h = 0; h < hands.size(); h++) {
            Integer s = hands.get(h).out ? null : hands.get(h).said.get(item);
            if (s != null) {
                BigInteger sum = BigInteger.ZERO;
                BigInteger[] times = new BigInteger[n];
                for (int t = 0; t < n; t++) {
                    times[t] = BigInteger.valueOf(shares[t]).multiply(
                        BigInteger.valueOf(j.tables.get(h).get(n + " " + t + " " + s)));
                    sum = sum.add(times[t]);
                }
                for (int t = 0; t < n && sum.signum() != 0; t++) {
                    shares[t] = times[t].multiply(BigInteger.valueOf(1000000)).divide(sum).longValueExact();
                }
            }
        }
        return shares;
    }

    int join() {
        Joined j = joining();
        for (int i = 0; i < items.size(); i++) items.get(i).shares = j.shares.get(i);
        for (int h = 0; h < hands.size(); h++) hands.get(h).table = j.tables.get(h);
        joinedSinceLastHand = true;
        return j.rests ? j.turns : j.turns - 100;
    }

    int share(int item, int label) {
        if (noLabel(item, label)) return UNKNOWN;
        Item it = get(item);
        boolean given = it.known != NONE || it.settled != NONE;
        return given ? label == end(it) ? 1000000 : 0 : (int) it.shares[label];
    }

    int table(int hand, int labels, int t, int s) {
        if (who(hand) == null) return UNKNOWN;
        if (labels < 2 || labels > 4 || t < 0 || t >= labels || s < 0 || s >= labels) return OUTSIDE;
        return who(hand).table == null ? NONE : who(hand).table.get(labels + " " + t + " " + s).intValue();
    }

    int next(int what) {
        if (what < 0 || what > 2) return OUTSIDE;
        if (!joinedSinceLastHand) return STATE;
        int[] best = {NONE, NONE, 0};
        for (int i = 0; i < items.size(); i++) {
            Item it = items.get(i);
            for (int h = 0; h < hands.size(); h++) {
                Hand who = hands.get(h);
                if (open(it) && it.known == NONE && it.settled == NONE && !who.out && !who.said.containsKey(i)) {
                    long sum = 0;
                    for (int s = 0; s < it.labels; s++) {
                        long most = 0;
                        for (int t = 0; t < it.labels; t++) {
                            most = Math.max(most, it.shares[t] * who.table.get(it.labels + " " + t + " " + s));
                        }
                        sum += most;
                    }
                    long help = sum / 1000 - it.shares[end(it.shares)];
                    if (help > best[2]) best = new int[] {i, h, (int) help};
                }
            }
        }
        return best[2] == 0 ? NONE : best[what];
    }

    // ---- 4 odds

    int right(int hand, int what) {
        Hand h = who(hand);
        if (h == null) return UNKNOWN;
        if (what < 0 || what > 3) return OUTSIDE;
        int[] n = {0, 0, 0, h.version};
        for (int i = 0; i < items.size() && !h.out; i++) {
            Integer said = h.said.get(i);
            if (said != null) {
                n[0]++;
                n[1] += items.get(i).known != NONE ? 1 : 0;
                n[2] += items.get(i).known == said ? 1 : 0;
            }
        }
        return n[what];
    }

    /** The odds that of the draws from i on, one of so many LABELS each, at least so many hit: {upper, lower}. */
    private static BigInteger[] hits(List<Integer> labels, int i, int least) {
        if (least > labels.size() - i) return new BigInteger[] {BigInteger.ZERO, BigInteger.ONE};
        if (least <= 0) return new BigInteger[] {BigInteger.ONE, BigInteger.ONE};
        BigInteger n = BigInteger.valueOf(labels.get(i));
        BigInteger[] hit = hits(labels, i + 1, least - 1);
        BigInteger[] miss = hits(labels, i + 1, least);
        BigInteger up = hit[0].multiply(miss[1]).add(miss[0].multiply(hit[1]).multiply(n.subtract(BigInteger.ONE)));
        return lowest(up, n.multiply(hit[1]).multiply(miss[1]));
    }

    private static BigInteger[] lowest(BigInteger up, BigInteger low) {
        BigInteger g = up.gcd(low);
        return new BigInteger[] {up.divide(g), low.divide(g)};
    }

    long guessing(int hand, int part) {
        if (who(hand) == null) return LOST + UNKNOWN;
        if (part != 0 && part != 1) return LOST + OUTSIDE;
        List<Integer> labels = new ArrayList<>();
        for (int i = 0; i < items.size() && !who(hand).out; i++) {
            if (who(hand).said.containsKey(i) && items.get(i).known != NONE) labels.add(items.get(i).labels);
        }
        return hits(labels, 0, right(hand, 2))[part].longValueExact();
    }

    long copying(int a, int b, int part) {
        if (who(a) == null || who(b) == null || a == b) return LOST + UNKNOWN;
        if (part != 0 && part != 1) return LOST + OUTSIDE;
        List<Integer> labels = new ArrayList<>();
        int same = 0;
        for (int i = 0; i < items.size() && !who(a).out && !who(b).out; i++) {
            Integer x = who(a).said.get(i);
            Integer y = who(b).said.get(i);
            if (x != null && y != null && labels.size() < 14) {
                labels.add(items.get(i).labels);
                same += x.equals(y) ? 1 : 0;
            }
        }
        return hits(labels, 0, same)[part].longValueExact();
    }

    int misread(int n) {
        if (n < 1 || n > 10) return OUTSIDE;
        int bits = 0;
        for (int part = 0; part < 4; part++) {
            for (int i = 0; i < items.size(); i++) {
                int[] with = new int[4];
                for (Hand h : hands) {
                    if (!h.out && h.said.containsKey(i)) with[h.said.get(i)]++;
                }
                for (int s = 0; s < 4; s++) {
                    boolean shows = (items.get(i).parts & 1 << part) != 0;
                    if (shows && items.get(i).known != NONE && s != items.get(i).known && with[s] >= n) {
                        bits |= 1 << part;
                    }
                }
            }
        }
        return bits;
    }

    int deal(int seed) {
        if (seed < 1 || seed > 1000000) return OUTSIDE;
        BigInteger now = BigInteger.valueOf(seed);
        int ones = 0;
        for (Hand h : hands) {
            now = now.multiply(BigInteger.valueOf(16807)).mod(BigInteger.valueOf(2147483647));
            h.version = now.testBit(0) ? 1 : 0;
            ones += h.version;
        }
        return ones;
    }

    long better(int part) {
        if (part != 0 && part != 1) return LOST + OUTSIDE;
        int n = 0;
        int rights = 0;
        int ones = 0;
        int least = 0;
        for (Hand h : hands) {
            for (int i = 0; i < items.size() && !h.out; i++) {
                if (h.said.containsKey(i) && items.get(i).known != NONE && n < 40) {
                    boolean right = h.said.get(i) == items.get(i).known;
                    n++;
                    rights += right ? 1 : 0;
                    ones += h.version;
                    least += right ? h.version : 0;
                }
            }
        }
        // Deal answer by answer: ways[r][k] with r RIGHT so far, k of them among the first, which are VERSION 1.
        BigInteger[][] ways = new BigInteger[rights + 1][rights + 1];
        for (BigInteger[] row : ways) java.util.Arrays.fill(row, BigInteger.ZERO);
        ways[0][0] = BigInteger.ONE;
        for (int a = 0; a < n; a++) {
            for (int r = rights; r > 0; r--) {
                for (int k = r; k >= 0; k--) {
                    BigInteger more = a >= ones ? ways[r - 1][k] : k > 0 ? ways[r - 1][k - 1] : BigInteger.ZERO;
                    ways[r][k] = ways[r][k].add(more);
                }
            }
        }
        BigInteger up = BigInteger.ZERO;
        BigInteger low = BigInteger.ZERO;
        for (int k = 0; k <= rights; k++) {
            low = low.add(ways[rights][k]);
            up = k >= least ? up.add(ways[rights][k]) : up;
        }
        return lowest(up, low)[part].longValueExact();
    }

    int lean(int hand) {
        if (who(hand) == null) return UNKNOWN;
        boolean was = who(hand).out;
        who(hand).out = true;
        Joined without = joining();
        who(hand).out = false;
        Joined with = joining();
        who(hand).out = was;
        int bits = 0;
        for (int i = 0; i < items.size(); i++) {
            bits |= end(without.shares.get(i)) != end(with.shares.get(i)) ? 1 << i : 0;
        }
        return bits;
    }

    // ---- 5 coins

    int coins(int hand) {
        if (who(hand) == null) return UNKNOWN;
        int wrong = right(hand, 1) - right(hand, 2);
        return Math.max(0, numbers[3] * right(hand, 0) + numbers[4] * right(hand, 2) - numbers[5] * wrong);
    }

    int pays(int saying, int right, int wrong) {
        if (saying < 0 || saying > 20 || right < -1000 || right > 1000 || wrong < -1000 || wrong > 1000) {
            return OUTSIDE;
        }
        paid[saying] = new int[] {right, wrong};
        return 1;
    }

    int belief(int what) {
        if (what < 0 || what > 2) return OUTSIDE;
        for (int b = 0; b <= 20; b++) {
            int own = b * paid[b][0] + (20 - b) * paid[b][1];
            int[] best = {b, b, 0};
            for (int s = 20; s >= 0; s--) {
                int more = b * paid[s][0] + (20 - b) * paid[s][1] - own;
                if (more > 0 && more >= best[2]) best = new int[] {b, s, more};
            }
            if (best[2] > 0) return best[what];
        }
        return NONE;
    }

    /** The odds that of n answers more at least so many are right, by 100^n. */
    private static BigInteger rights(int n, int least, int q) {
        if (n == 0) return least <= 0 ? BigInteger.ONE : BigInteger.ZERO;
        return rights(n - 1, least - 1, q).multiply(BigInteger.valueOf(q))
            .add(rights(n - 1, least, q).multiply(BigInteger.valueOf(100 - q)));
    }

    int plan(int q, int s) {
        if (q < 0 || q > 100 || s < 0 || s > 100) return OUTSIDE;
        for (int n = 1; n <= 9; n += 2) {
            BigInteger odds = rights(n, (n + 1) / 2, q).multiply(BigInteger.valueOf(100));
            if (odds.compareTo(BigInteger.valueOf(100).pow(n).multiply(BigInteger.valueOf(s))) >= 0) return n;
        }
        return NONE;
    }

    int told(int what) {
        if (what < 0 || what > 5) return OUTSIDE;
        int count = 0;
        int open = 0;
        for (int i = 0; i < items.size(); i++) {
            count += counting(i);
            open |= open(items.get(i)) ? 1 << i : 0;
        }
        return new int[] {signs.length(), steps.length, items.size(), hands.size(), count, open}[what];
    }
}

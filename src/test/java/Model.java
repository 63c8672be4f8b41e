import java.math.BigInteger;
import java.util.ArrayList;
import java.util.Arrays;
import java.util.HashMap;
import java.util.HashSet;
import java.util.List;
import java.util.Map;
import java.util.Set;
import java.util.regex.Pattern;

/**
 * A second reading of the document, written for plainness and not for speed: it tries every
 * completion of a text, every row, every order, every luck. It shares no code with the class.
 */
final class Model {
    static final int UNKNOWN = -1, BAD = -2, LATE = -3, FULL = -4, NONE = -9;
    private static final Pattern SHAPE =
            Pattern.compile("S[0-2][0-9](H[0-7][1-9][0-3]|T[0-3][1-9][0-3]|L[0-4][0-4][01])*");
    private static final Map<String, Boolean> CAN_BE = new HashMap<>();

    /** What acts change. */
    private static final class State {
        int[] loose = new int[5];
        int[] hits = new int[5];
        boolean[] down = new boolean[5];
        boolean[] halved = new boolean[5];
        boolean[] nail = new boolean[5];
        int wind = 1;
        int paid = 0;

        State copy() {
            State s = new State();
            s.loose = loose.clone();
            s.hits = hits.clone();
            s.down = down.clone();
            s.halved = halved.clone();
            s.nail = nail.clone();
            s.wind = wind;
            s.paid = paid;
            return s;
        }

        int bits() {
            int bits = 0;
            for (int i = 0; i < 5; i++) {
                bits += down[i] ? 1 << i : 0;
            }
            return bits;
        }

        int many() {
            return Integer.bitCount(bits());
        }
    }

    /** A row of throws told as a number, and what it leads to. */
    private record Tried(int number, State state) { }

    private String text = "";
    private final List<int[]> husks = new ArrayList<>();
    private final List<int[]> throwers = new ArrayList<>();
    private final List<int[]> laws = new ArrayList<>();
    private State state = new State();
    private final List<State> acts = new ArrayList<>();
    private final List<int[]> seen = new ArrayList<>();
    private final State[] kept = new State[2];
    private BigInteger seed = BigInteger.ZERO;

    // ---- the fair

    int write(int letter) {
        if (letter < 0 || letter > 255) {
            return BAD;
        }
        if (text.length() == 60) {
            return FULL;
        }
        text += (char) letter;
        return text.length();
    }

    int wipe() {
        int was = text.length();
        text = "";
        return was;
    }

    private static boolean isFair(String told) {
        if (!SHAPE.matcher(told).matches()) {
            return false;
        }
        Set<Character> places = new HashSet<>();
        int throwers = 0;
        int laws = 0;
        for (int at = 3; at < told.length(); at += 4) {
            char a = told.charAt(at + 1);
            char b = told.charAt(at + 2);
            switch (told.charAt(at)) {
                case 'H':
                    if (!places.add(a)) {
                        return false;
                    }
                    break;
                case 'T':
                    throwers++;
                    break;
                default:
                    laws++;
                    if (a == b || a - '0' >= places.size() || b - '0' >= places.size()) {
                        return false;
                    }
            }
        }
        return places.size() <= 5 && throwers <= 4 && laws <= 4;
    }

    /** Whether something may come behind it so that it is a fair. */
    private static boolean canBe(String told) {
        return CAN_BE.computeIfAbsent(told, Model::canBeCompleted);
    }

    private static boolean canBeCompleted(String told) {
        if (told.isEmpty() || isFair(told)) {
            return true;
        }
        for (int i = 0; i < 10; i++) {
            if (isFair(told + i)) {
                return true;
            }
        }
        for (int i = 0; i < 100; i++) {
            if (isFair(told + i / 10 + i % 10)) {
                return true;
            }
        }
        for (int i = 0; i < 1000; i++) {
            if (isFair(told + i / 100 + i / 10 % 10 + i % 10)) {
                return true;
            }
        }
        return false;
    }

    int fault() {
        for (int i = 0; i < text.length(); i++) {
            if (!canBe(text.substring(0, i + 1))) {
                return i;
            }
        }
        return isFair(text) ? NONE : text.length();
    }

    int fair() {
        if (!isFair(text)) {
            return LATE;
        }
        husks.clear();
        throwers.clear();
        laws.clear();
        for (int at = 3; at < text.length(); at += 4) {
            int[] part = {text.charAt(at + 1) - '0', text.charAt(at + 2) - '0', text.charAt(at + 3) - '0'};
            (text.charAt(at) == 'H' ? husks : text.charAt(at) == 'T' ? throwers : laws).add(part);
        }
        state = new State();
        state.wind = text.charAt(1) - '0';
        state.paid = text.charAt(2) - '0';
        for (int i = 0; i < husks.size(); i++) {
            state.nail[i] = husks.get(i)[2] == 1;
        }
        acts.clear();
        Arrays.fill(kept, null);
        return husks.size() * 100 + throwers.size() * 10 + laws.size();
    }

    int about(int what) {
        int[] all = {husks.size(), throwers.size(), laws.size(), state.wind, state.paid, state.bits(),
            acts.size(), seen.size(), text.length()};
        return what < 0 || what >= all.length ? BAD : all[what];
    }

    private boolean noHusk(int i) {
        return i < 0 || i >= husks.size();
    }

    private boolean noThrower(int i) {
        return i < 0 || i >= throwers.size();
    }

    private int firm(State s, int i) {
        int firm = husks.get(i)[1];
        if (s.nail[i]) {
            firm += 4;
        }
        if (s.halved[i]) {
            firm = Math.max(1, firm / 2);
        }
        if (husks.get(i)[2] == 2) {
            firm = Math.max(1, firm - s.hits[i]);
        }
        return firm;
    }

    int husk(int i, int what) {
        if (noHusk(i)) {
            return UNKNOWN;
        }
        int[] h = husks.get(i);
        int[] all = {h[0], h[1], h[2], firm(state, i), state.loose[i], state.hits[i],
            state.halved[i] ? 1 : 0, state.nail[i] ? 1 : 0, state.down[i] ? 1 : 0};
        return what < 0 || what >= all.length ? BAD : all[what];
    }

    int thrower(int i, int what) {
        if (noThrower(i)) {
            return UNKNOWN;
        }
        int[] t = throwers.get(i);
        int[] all = {t[0], t[1], t[2], t[2] == 3 ? t[1] + 2 : t[1]};
        return what < 0 || what >= all.length ? BAD : all[what];
    }

    private int landing(State s, int i, int place, int luck) {
        int[] t = throwers.get(i);
        int way = luck == 0 ? 0 : luck == 1 ? 1 : -1;
        if (t[2] == 2) {
            way = -way;
        }
        int at = place + way * (t[2] == 3 ? t[0] + 1 : t[0]);
        if (t[2] != 1) {
            at += s.wind == 0 ? -1 : s.wind == 2 ? 1 : 0;
        }
        return at >= 0 && at <= 7 ? at : 8;
    }

    private int refused(int thrower, int place, int luck) {
        if (noThrower(thrower)) {
            return UNKNOWN;
        }
        return place < 0 || place > 7 || luck < 0 || luck > 2 ? BAD : 0;
    }

    int lands(int thrower, int place, int luck) {
        int no = refused(thrower, place, luck);
        return no < 0 ? no : landing(state, thrower, place, luck);
    }

    // ---- acts

    /** Throws and changes that state; answers what fell. */
    private Set<Integer> throwIt(State s, int thrower, int place, int luck) {
        Set<Integer> fell = new HashSet<>();
        int at = landing(s, thrower, place, luck);
        for (int i = 0; i < husks.size(); i++) {
            if (husks.get(i)[0] == at && !s.down[i]) {
                s.loose[i] += thrower(thrower, 3);
                s.hits[i]++;
                if (s.loose[i] >= firm(s, i)) {
                    if (husks.get(i)[2] == 3 && !s.halved[i]) {
                        s.halved[i] = true;
                        s.loose[i] = 0;
                    } else {
                        goDown(s, i, fell);
                    }
                }
                break;
            }
        }
        return fell;
    }

    private void goDown(State s, int i, Set<Integer> fell) {
        s.down[i] = true;
        fell.add(i);
        for (int[] law : laws) {
            if (law[0] == i) {
                int j = law[1];
                if (law[2] == 0 && !s.down[j] && !fell.contains(j)) {
                    goDown(s, j, fell);
                } else if (law[2] == 1 && s.down[j]) {
                    s.down[j] = false;
                    s.loose[j] = 0;
                }
            }
        }
    }

    private void act() {
        acts.add(state.copy());
        if (acts.size() > 14) {
            acts.remove(0);
        }
    }

    int toss(int thrower, int place, int luck) {
        int no = refused(thrower, place, luck);
        if (no < 0) {
            return no;
        }
        if (state.paid == 0) {
            return LATE;
        }
        act();
        state.paid--;
        int bits = 0;
        for (int i : throwIt(state, thrower, place, luck)) {
            bits += 1 << i;
        }
        return bits;
    }

    int set(int i) {
        if (noHusk(i)) {
            return UNKNOWN;
        }
        if (!state.down[i]) {
            return LATE;
        }
        act();
        state.down[i] = false;
        state.loose[i] = 0;
        return firm(state, i);
    }

    int nail(int i) {
        if (noHusk(i)) {
            return UNKNOWN;
        }
        if (state.down[i]) {
            return LATE;
        }
        act();
        state.nail[i] = !state.nail[i];
        return firm(state, i);
    }

    int pay() {
        if (state.paid == 9) {
            return LATE;
        }
        act();
        state.paid = Math.min(9, state.paid + 3);
        return state.paid;
    }

    int blow(int wind) {
        if (wind < 0 || wind > 2) {
            return BAD;
        }
        int was = state.wind;
        if (was == wind) {
            return LATE;
        }
        act();
        state.wind = wind;
        return was;
    }

    int undo() {
        if (acts.isEmpty()) {
            return LATE;
        }
        state = acts.remove(acts.size() - 1);
        return acts.size();
    }

    // ---- what falls

    int felled(int thrower, int place, int luck) {
        int no = refused(thrower, place, luck);
        if (no < 0) {
            return no;
        }
        State s = state.copy();
        throwIt(s, thrower, place, luck);
        return s.bits();
    }

    /** The place to throw at so that it lands where the husk is; NONE. */
    private int placeFor(State s, int thrower, int husk) {
        for (int place = 0; place < 8; place++) {
            if (landing(s, thrower, place, 0) == husks.get(husk)[0]) {
                return place;
            }
        }
        return NONE;
    }

    /** What is behind a throw AT a husk; null if it can not be thrown at. */
    private State behind(State s, int thrower, int husk) {
        int place = placeFor(s, thrower, husk);
        if (s.down[husk] || place == NONE) {
            return null;
        }
        State then = s.copy();
        throwIt(then, thrower, place, 0);
        return then;
    }

    int fewest(int husk, boolean row) {
        if (noHusk(husk)) {
            return UNKNOWN;
        }
        List<Tried> all = List.of(new Tried(0, state));
        for (int n = 0; n <= 3; n++) {
            int least = Integer.MAX_VALUE;
            for (Tried one : all) {
                if (one.state.down[husk]) {
                    least = Math.min(least, one.number);
                }
            }
            if (least != Integer.MAX_VALUE) {
                return row ? least : n;
            }
            List<Tried> next = new ArrayList<>();
            for (Tried one : all) {
                for (int at = 0; n < 3 && at < husks.size(); at++) {
                    for (int t = 0; t < throwers.size(); t++) {
                        State then = behind(one.state, t, at);
                        if (then != null) {
                            next.add(new Tried(one.number * 100 + (t + 1) * 10 + at + 1, then));
                        }
                    }
                }
            }
            all = next;
        }
        return NONE;
    }

    int winds(int thrower, int husk) {
        if (noThrower(thrower) || noHusk(husk)) {
            return UNKNOWN;
        }
        int bits = 0;
        for (int wind = 0; wind < 3; wind++) {
            State s = state.copy();
            s.wind = wind;
            bits += behind(s, thrower, husk) != null ? 1 << wind : 0;
        }
        return bits;
    }

    private Tried best(Set<Integer> who) {
        List<Tried> all = List.of(new Tried(1, state));
        for (int t = 0; t < throwers.size(); t++) {
            List<Tried> next = new ArrayList<>();
            for (Tried one : all) {
                next.add(new Tried(one.number * 10, one.state));
                for (int at = 0; who.contains(t) && at < husks.size(); at++) {
                    State then = behind(one.state, t, at);
                    if (then != null) {
                        next.add(new Tried(one.number * 10 + at + 1, then));
                    }
                }
            }
            all = next;
        }
        Tried best = all.get(0);
        for (Tried one : all) {
            int more = one.state.many() - best.state.many();
            if (more > 0 || more == 0 && one.number < best.number) {
                best = one;
            }
        }
        return best;
    }

    int match(boolean row) {
        Tried best = best(Set.of(0, 1, 2, 3));
        return row ? best.number : best.state.many();
    }

    int nails(int husk) {
        if (noHusk(husk)) {
            return UNKNOWN;
        }
        int best = NONE;
        for (int bits = 0; bits < 1 << husks.size(); bits++) {
            boolean fewer = best == NONE || Integer.bitCount(bits) < Integer.bitCount(best);
            if (fewer && !state.down[husk] && standsBy(husk, bits)) {
                best = bits;
            }
        }
        return best;
    }

    private boolean standsBy(int husk, int bits) {
        State s = state.copy();
        for (int i = 0; i < husks.size(); i++) {
            if ((bits >> i) % 2 == 1) {
                if (s.down[i] || s.nail[i]) {
                    return false;
                }
                s.nail[i] = true;
            }
        }
        for (int i = 0; i < husks.size(); i++) {
            for (int t = 0; t < throwers.size(); t++) {
                State then = behind(s, t, i);
                if (then != null && then.down[husk]) {
                    return false;
                }
            }
        }
        return true;
    }

    int judge(int n, int row) {
        if (n < 1 || n > 4 || row < 0) {
            return BAD;
        }
        String figures = String.valueOf(row);
        if (figures.length() > 2 * n) {
            return BAD;
        }
        figures = "0".repeat(2 * n - figures.length()) + figures;
        Model other = new Model();
        other.husks.addAll(husks);
        other.throwers.addAll(throwers);
        other.laws.addAll(laws);
        other.state = state.copy();
        for (int i = 0; i < n; i++) {
            int what = figures.charAt(2 * i) - '0';
            int which = figures.charAt(2 * i + 1) - '0';
            if (!other.does(what, which)) {
                return i;
            }
        }
        return NONE;
    }

    private boolean does(int what, int which) {
        switch (what) {
            case 0: return set(which) >= 0;
            case 1: case 2: case 3: case 4:
                if (noThrower(what - 1) || noHusk(which) || state.down[which]) {
                    return false;
                }
                int place = placeFor(state, what - 1, which);
                return place != NONE && toss(what - 1, place, 0) >= 0;
            case 5: return nail(which) >= 0;
            case 6: return which == 0 && pay() >= 0;
            default: return false;
        }
    }

    int share(int thrower, boolean upper) {
        if (noThrower(thrower)) {
            return UNKNOWN;
        }
        int[] sums = new int[2];
        Map<Set<Integer>, Integer> known = new HashMap<>();
        orders(new ArrayList<>(), thrower, known, sums);
        return fraction(BigInteger.valueOf(sums[0]), BigInteger.valueOf(sums[1]), upper);
    }

    /** Goes through all orders; sums[0]: what it brought, sums[1]: how many orders. */
    private void orders(List<Integer> order, int thrower, Map<Set<Integer>, Integer> known, int[] sums) {
        if (order.size() == throwers.size()) {
            Set<Integer> ahead = new HashSet<>(order.subList(0, order.indexOf(thrower)));
            Set<Integer> with = new HashSet<>(ahead);
            with.add(thrower);
            sums[0] += known.computeIfAbsent(with, s -> best(s).state.many())
                    - known.computeIfAbsent(ahead, s -> best(s).state.many());
            sums[1]++;
            return;
        }
        for (int t = 0; t < throwers.size(); t++) {
            if (!order.contains(t)) {
                order.add(t);
                orders(order, thrower, known, sums);
                order.remove(order.size() - 1);
            }
        }
    }

    private static int fraction(BigInteger top, BigInteger bottom, boolean upper) {
        return (upper ? top : bottom).divide(top.gcd(bottom)).intValueExact();
    }

    // ---- holds

    int see(int husk, int force, int fell) {
        if (noHusk(husk)) {
            return UNKNOWN;
        }
        if (force < 1 || force > 11 || fell < 0 || fell > 1) {
            return BAD;
        }
        if (seen.size() == 6) {
            return FULL;
        }
        seen.add(new int[] {husk, force, fell});
        return seen.size();
    }

    int unsee() {
        int was = seen.size();
        seen.clear();
        return was;
    }

    int holds(int husk) {
        if (noHusk(husk)) {
            return UNKNOWN;
        }
        int bits = 0;
        for (int hold = 1; hold <= 9; hold++) {
            boolean so = true;
            for (int[] one : seen) {
                boolean falls = one[1] >= (state.nail[husk] ? hold + 4 : hold);
                so &= one[0] != husk || falls == (one[2] == 1);
            }
            bits += so ? 1 << hold : 0;
        }
        return bits;
    }

    // ---- rests, chances

    private int[] worth(int one, int other) {
        int[] worth = new int[2];
        State s = state;
        State then = one == 0 ? null : behind(s, 0, one - 1);
        if (then != null) {
            s = then;
            worth[0]--;
        }
        then = other == 0 ? null : behind(s, 1, other - 1);
        if (then != null) {
            s = then;
            worth[1]--;
        }
        for (int i = 0; i < husks.size(); i++) {
            if (s.down[i]) {
                worth[0] += i + 1;
                worth[1] += 5 - i;
            }
        }
        return worth;
    }

    int rests(int what) {
        if (throwers.size() < 2) {
            return UNKNOWN;
        }
        if (what != 0 && what != 1) {
            return BAD;
        }
        List<Integer> all = new ArrayList<>();
        for (int one = 0; one <= husks.size(); one++) {
            for (int other = 0; other <= husks.size(); other++) {
                int[] worth = worth(one, other);
                boolean rest = true;
                for (int choice = 0; choice <= husks.size(); choice++) {
                    rest &= worth(choice, other)[0] <= worth[0] && worth(one, choice)[1] <= worth[1];
                }
                if (rest) {
                    all.add(one * 10 + other);
                }
            }
        }
        return what == 0 ? all.size() : all.isEmpty() ? NONE : all.get(0);
    }

    int odds(int thrower, int place, int n, int husk, int x, boolean upper) {
        if (noThrower(thrower) || noHusk(husk)) {
            return UNKNOWN;
        }
        if (place < 0 || place > 7 || n < 1 || n > 4 || x < 0 || x > 10) {
            return BAD;
        }
        BigInteger top = BigInteger.ZERO;
        for (int lucks = 0; lucks < Math.pow(3, n); lucks++) {
            State s = state.copy();
            BigInteger ways = BigInteger.ONE;
            int left = lucks;
            for (int i = 0; i < n; i++) {
                throwIt(s, thrower, place, left % 3);
                ways = ways.multiply(BigInteger.valueOf(left % 3 == 0 ? 2 * x : 10 - x));
                left /= 3;
            }
            top = s.down[husk] ? top.add(ways) : top;
        }
        return fraction(top, BigInteger.valueOf(20).pow(n), upper);
    }

    long seed(long v) {
        long was = seed.longValue();
        seed = BigInteger.valueOf(v);
        return was;
    }

    int fairs(int m) {
        if (m < 1 || m > 30) {
            return BAD;
        }
        BigInteger whole = BigInteger.ONE.shiftLeft(64);
        State s = state.copy();
        int together = 0;
        for (int i = 0; i < m; i++) {
            seed = seed.multiply(new BigInteger("6364136223846793005"))
                    .add(new BigInteger("1442695040888963407")).mod(whole);
            int drawn = seed.shiftRight(33).mod(BigInteger.valueOf(96)).intValue();
            if (!noThrower(drawn / 24)) {
                throwIt(s, drawn / 24, drawn % 24 / 3, drawn % 3);
            }
            together += s.many();
        }
        return together;
    }

    // ---- slots

    int keep(int slot) {
        if (slot != 0 && slot != 1) {
            return UNKNOWN;
        }
        kept[slot] = state.copy();
        return state.many();
    }

    int again(int slot) {
        if (slot != 0 && slot != 1) {
            return UNKNOWN;
        }
        if (kept[slot] == null) {
            return LATE;
        }
        state = kept[slot].copy();
        acts.clear();
        return state.many();
    }
}

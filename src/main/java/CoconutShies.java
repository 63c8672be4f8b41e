/**
 * Coconut shies: husks on cups in a row, throwers, laws and wind; what falls by a throw, and what
 * follows from that. Refusals are numbers below 0, so no call throws.
 */
public final class CoconutShies {
    public static final int UNKNOWN = -1, BAD = -2, LATE = -3, FULL = -4, NONE = -9;

    private static final int PLACES = 8, OFF = 8;
    private static final int MOST_HUSKS = 5, MOST_THROWERS = 4, MOST_LAWS = 4;
    private static final int MOST_BYTES = 60, MOST_ACTS = 14, MOST_SEEN = 6, SLOTS = 2;
    private static final int MOST_PAID = 9, THROWS_A_PENNY = 3, NO_WIND = 1;
    private static final int MOST_HOLD = 9, NAIL_HOLDS = 4, MOST_SEEN_FORCE = 11;
    private static final int NAILED = 1, BALD = 2, SPLIT = 3;
    private static final int CURATE = 1, LEFT = 2, NAVVY = 3;
    private static final int SETS_UP = 1;
    private static final int STRAIGHT = 0, OVER = 1, UNDER = 2;
    private static final int MOST_ROW = 3, MOST_DOINGS = 4, MOST_ODDS = 4, MOST_FAIRS = 30;
    private static final long SEED_TIMES = 6364136223846793005L, SEED_MORE = 1442695040888963407L;
    private static final int[] HUNDREDS = {1, 100, 10000, 1000000, 100000000};
    private static final int[] ORDERS = {1, 1, 2, 6, 24};

    private final Text text = new Text();
    private final Stand stand = new Stand();
    private final Acts acts = new Acts();
    private final Sightings sightings = new Sightings();
    private final Slots slots = new Slots();
    private final Seeker seeker = new Seeker();
    private final Parties parties = new Parties();
    private final Chances chances = new Chances();
    private Booth booth = new Booth();
    private Booth draft = new Booth();
    private long seedNow = 0;

    public CoconutShies() {
        // No husks, nobody: so the fields are made.
    }

    // ---- the fair

    public int write(int letter) {
        if (letter < 0 || letter > 255) {
            return BAD;
        }
        return text.append(letter) ? text.length : FULL;
    }

    public int wipe() {
        int was = text.length;
        text.length = 0;
        return was;
    }

    public int fault() {
        return draft.readFrom(text);
    }

    public int fair() {
        if (draft.readFrom(text) != NONE) {
            return LATE;
        }
        Booth old = booth;
        booth = draft;
        draft = old;
        stand.makeAnew(booth);
        acts.forgetAll();
        slots.forgetAll();
        return 100 * booth.husks + 10 * booth.throwers + booth.laws;
    }

    public int about(int what) {
        switch (what) {
            case 0: return booth.husks;
            case 1: return booth.throwers;
            case 2: return booth.laws;
            case 3: return stand.wind;
            case 4: return stand.paid;
            case 5: return stand.down;
            case 6: return acts.count;
            case 7: return sightings.count;
            case 8: return text.length;
            default: return BAD;
        }
    }

    public int husk(int husk, int what) {
        if (!booth.isHusk(husk)) {
            return UNKNOWN;
        }
        switch (what) {
            case 0: return booth.place[husk];
            case 1: return booth.hold[husk];
            case 2: return booth.huskKind[husk];
            case 3: return stand.firmness(booth, husk);
            case 4: return stand.loose[husk];
            case 5: return stand.hits[husk];
            case 6: return bit(stand.halved, husk);
            case 7: return bit(stand.nailed, husk);
            case 8: return bit(stand.down, husk);
            default: return BAD;
        }
    }

    public int thrower(int thrower, int what) {
        if (!booth.isThrower(thrower)) {
            return UNKNOWN;
        }
        switch (what) {
            case 0: return booth.aim[thrower];
            case 1: return booth.force[thrower];
            case 2: return booth.throwerKind[thrower];
            case 3: return booth.loosensBy(thrower);
            default: return BAD;
        }
    }

    public int lands(int thrower, int place, int luck) {
        int refusal = refusalOfThrow(thrower, place, luck);
        return refusal != NONE ? refusal : booth.landing(thrower, place, luck, stand.wind);
    }

    // ---- acts

    public int toss(int thrower, int place, int luck) {
        int refusal = refusalOfThrow(thrower, place, luck);
        if (refusal != NONE) {
            return refusal;
        }
        if (stand.paid == 0) {
            return LATE;
        }
        acts.remember(stand);
        stand.paid--;
        return stand.throwBy(booth, thrower, place, luck);
    }

    public int set(int husk) {
        if (!booth.isHusk(husk)) {
            return UNKNOWN;
        }
        if (stand.isUp(husk)) {
            return LATE;
        }
        acts.remember(stand);
        stand.setUp(husk);
        return stand.firmness(booth, husk);
    }

    public int nail(int husk) {
        if (!booth.isHusk(husk)) {
            return UNKNOWN;
        }
        if (!stand.isUp(husk)) {
            return LATE;
        }
        acts.remember(stand);
        stand.turnNail(husk);
        return stand.firmness(booth, husk);
    }

    public int pay() {
        if (stand.paid >= MOST_PAID) {
            return LATE;
        }
        acts.remember(stand);
        stand.takePenny();
        return stand.paid;
    }

    public int blow(int wind) {
        if (wind < 0 || wind > 2) {
            return BAD;
        }
        if (wind == stand.wind) {
            return LATE;
        }
        acts.remember(stand);
        int was = stand.wind;
        stand.wind = wind;
        return was;
    }

    public int undo() {
        return acts.takeBack(stand) ? acts.count : LATE;
    }

    // ---- what falls

    public int felled(int thrower, int place, int luck) {
        int refusal = refusalOfThrow(thrower, place, luck);
        return refusal != NONE ? refusal : seeker.downBehind(booth, stand, thrower, place, luck);
    }

    public int fewest(int husk, boolean row) {
        if (!booth.isHusk(husk)) {
            return UNKNOWN;
        }
        for (int many = 0; many <= MOST_ROW; many++) {
            int first = seeker.firstRow(booth, stand, husk, many);
            if (first != NONE) {
                return row ? first : many;
            }
        }
        return NONE;
    }

    public int winds(int thrower, int husk) {
        if (!booth.isThrower(thrower) || !booth.isHusk(husk)) {
            return UNKNOWN;
        }
        if (!stand.isUp(husk)) {
            return 0;
        }
        int bits = 0;
        for (int wind = 0; wind <= 2; wind++) {
            if (booth.reaches(thrower, husk, wind)) {
                bits |= 1 << wind;
            }
        }
        return bits;
    }

    public int match(boolean row) {
        seeker.matchAmong(booth, stand, (1 << booth.throwers) - 1);
        return row ? seeker.firstFigures : seeker.mostDown;
    }

    public int nails(int husk) {
        if (!booth.isHusk(husk)) {
            return UNKNOWN;
        }
        return stand.isUp(husk) ? seeker.fewestNails(booth, stand, husk) : NONE;
    }

    public int judge(int n, int row) {
        if (n < 1 || n > MOST_DOINGS || row < 0 || row >= hundreds(n)) {
            return BAD;
        }
        return seeker.firstThatCanNotBe(booth, stand, n, row);
    }

    public int share(int thrower, boolean upper) {
        if (!booth.isThrower(thrower)) {
            return UNKNOWN;
        }
        int sum = 0;
        for (int others = 0; others < 1 << booth.throwers; others++) {
            if (bit(others, thrower) == 0) {
                int more = seeker.matchAmong(booth, stand, others | 1 << thrower)
                        - seeker.matchAmong(booth, stand, others);
                // The others come ahead of it in any order, and the rest behind it in any order.
                int ahead = Integer.bitCount(others);
                sum += more * ordersOf(ahead) * ordersOf(booth.throwers - ahead - 1);
            }
        }
        return inLeastTerms(sum, ordersOf(booth.throwers), upper);
    }

    // ---- holds

    public int see(int husk, int force, int fell) {
        if (!booth.isHusk(husk)) {
            return UNKNOWN;
        }
        if (force < 1 || force > MOST_SEEN_FORCE || fell < 0 || fell > 1) {
            return BAD;
        }
        return sightings.append(husk, force, fell) ? sightings.count : FULL;
    }

    public int unsee() {
        int was = sightings.count;
        sightings.count = 0;
        return was;
    }

    public int holds(int husk) {
        if (!booth.isHusk(husk)) {
            return UNKNOWN;
        }
        return sightings.holdsOf(husk, NAIL_HOLDS * bit(stand.nailed, husk));
    }

    // ---- rests, chances

    public int rests(int what) {
        if (booth.throwers < 2) {
            return UNKNOWN;
        }
        if (what < 0 || what > 1) {
            return BAD;
        }
        parties.settle(booth, stand);
        return what == 0 ? parties.count : parties.first;
    }

    public int odds(int thrower, int place, int n, int husk, int x, boolean upper) {
        if (!booth.isThrower(thrower) || !booth.isHusk(husk)) {
            return UNKNOWN;
        }
        if (!isPlace(place) || n < 1 || n > MOST_ODDS || x < 0 || x > 10) {
            return BAD;
        }
        chances.thrower = thrower;
        chances.place = place;
        chances.tenths = x;
        return inLeastTerms(chances.waysDown(booth, stand, husk, n), Chances.allWays(n), upper);
    }

    public long seed(long v) {
        long was = seedNow;
        seedNow = v;
        return was;
    }

    public int fairs(int m) {
        if (m < 1 || m > MOST_FAIRS) {
            return BAD;
        }
        int together = 0;
        chances.startFrom(stand);
        for (int i = 0; i < m; i++) {
            seedNow = seedNow * SEED_TIMES + SEED_MORE;
            together += chances.downBehindDrawn(booth, (int) ((seedNow >>> 33) % 96));
        }
        return together;
    }

    // ---- slots

    public int keep(int slot) {
        return slots.put(slot, stand) ? stand.howManyDown() : UNKNOWN;
    }

    public int again(int slot) {
        if (slot < 0 || slot >= SLOTS) {
            return UNKNOWN;
        }
        if (!slots.get(slot, stand)) {
            return LATE;
        }
        acts.forgetAll();
        return stand.howManyDown();
    }

    private int refusalOfThrow(int thrower, int place, int luck) {
        if (!booth.isThrower(thrower)) {
            return UNKNOWN;
        }
        return isPlace(place) && luck >= STRAIGHT && luck <= UNDER ? NONE : BAD;
    }

    private static boolean isPlace(int place) {
        return place >= 0 && place < PLACES;
    }

    private static int bit(int bits, int at) {
        return bits >> at & 1;
    }

    private static Stand[] newStands(int many) {
        Stand[] stands = new Stand[Math.max(0, many)];
        for (int i = 0; i < stands.length; i++) {
            stands[i] = new Stand();
        }
        return stands;
    }

    private static int ordersOf(int many) {
        return many >= 0 && many < ORDERS.length ? ORDERS[many] : 1;
    }

    /** 100 to that power: a row tells each throw, or doing, by two figures. */
    private static int hundreds(int power) {
        return power >= 0 && power < HUNDREDS.length ? HUNDREDS[power] : 1;
    }

    private static int inLeastTerms(int top, int bottom, boolean upper) {
        int common = commonDivisor(top, bottom);
        if (common == 0) {
            return 0;
        }
        return (upper ? top : bottom) / common;
    }

    private static int commonDivisor(int a, int b) {
        int greater = a;
        int less = b;
        // Euclid's steps on ints are fewer than 50.
        for (int i = 0; i < 64 && less != 0; i++) {
            int left = greater % less;
            greater = less;
            less = left;
        }
        return greater;
    }

    /** The bytes that were written. */
    private static final class Text {
        final int[] bytes = new int[MOST_BYTES];
        int length = 0;

        boolean append(int letter) {
            if (length >= MOST_BYTES) {
                return false;
            }
            bytes[length] = letter;
            length++;
            return true;
        }

        int letterAt(int at) {
            return at >= 0 && at < length ? bytes[at] : NONE;
        }

        /** The figure that stands there; NONE, if there is none, or not one of low .. high. */
        int figureAt(int at, int low, int high) {
            int figure = letterAt(at) - '0';
            return figure >= low && figure <= high ? figure : NONE;
        }
    }

    /** What a text tells: husks, throwers and laws, which no act changes. */
    private static final class Booth {
        final int[] place = new int[MOST_HUSKS];
        final int[] hold = new int[MOST_HUSKS];
        final int[] huskKind = new int[MOST_HUSKS];
        final int[] aim = new int[MOST_THROWERS];
        final int[] force = new int[MOST_THROWERS];
        final int[] throwerKind = new int[MOST_THROWERS];
        final int[] lawOf = new int[MOST_LAWS];
        final int[] lawFor = new int[MOST_LAWS];
        final int[] lawKind = new int[MOST_LAWS];
        int husks = 0;
        int throwers = 0;
        int laws = 0;
        int windAtFirst = NO_WIND;
        int paidAtFirst = 0;

        boolean isHusk(int husk) {
            return husk >= 0 && husk < husks;
        }

        boolean isThrower(int thrower) {
            return thrower >= 0 && thrower < throwers;
        }

        /**
         * Becomes what the text tells; answers its fault, or NONE. A byte that is wrong and one that
         * is not there yet are both told by the place where it should be.
         */
        int readFrom(Text text) {
            husks = 0;
            throwers = 0;
            laws = 0;
            if (text.letterAt(0) != 'S') {
                return 0;
            }
            windAtFirst = text.figureAt(1, 0, 2);
            if (windAtFirst == NONE) {
                return 1;
            }
            paidAtFirst = text.figureAt(2, 0, MOST_PAID);
            if (paidAtFirst == NONE) {
                return 2;
            }
            for (int at = 3; at < text.length; at += 4) {
                int fault = readPart(text, at);
                if (fault != NONE) {
                    return fault;
                }
            }
            return NONE;
        }

        private int readPart(Text text, int at) {
            switch (text.letterAt(at)) {
                case 'H': return readHusk(text, at);
                case 'T': return readThrower(text, at);
                case 'L': return readLaw(text, at);
                default: return at;
            }
        }

        private int readHusk(Text text, int at) {
            if (husks >= MOST_HUSKS) {
                return at;
            }
            int where = text.figureAt(at + 1, 0, PLACES - 1);
            if (where == NONE || huskAt(where) != NONE) {
                return at + 1;
            }
            int firm = text.figureAt(at + 2, 1, MOST_HOLD);
            if (firm == NONE) {
                return at + 2;
            }
            int kind = text.figureAt(at + 3, 0, SPLIT);
            if (kind == NONE) {
                return at + 3;
            }
            place[husks] = where;
            hold[husks] = firm;
            huskKind[husks] = kind;
            husks++;
            return NONE;
        }

        private int readThrower(Text text, int at) {
            if (throwers >= MOST_THROWERS) {
                return at;
            }
            int far = text.figureAt(at + 1, 0, 3);
            if (far == NONE) {
                return at + 1;
            }
            int strong = text.figureAt(at + 2, 1, 9);
            if (strong == NONE) {
                return at + 2;
            }
            int kind = text.figureAt(at + 3, 0, NAVVY);
            if (kind == NONE) {
                return at + 3;
            }
            aim[throwers] = far;
            force[throwers] = strong;
            throwerKind[throwers] = kind;
            throwers++;
            return NONE;
        }

        private int readLaw(Text text, int at) {
            // With fewer than two husks told no law can follow the letter.
            if (laws >= MOST_LAWS || husks < 2) {
                return at;
            }
            int falls = text.figureAt(at + 1, 0, husks - 1);
            if (falls == NONE) {
                return at + 1;
            }
            int other = text.figureAt(at + 2, 0, husks - 1);
            if (other == NONE || other == falls) {
                return at + 2;
            }
            int kind = text.figureAt(at + 3, 0, 1);
            if (kind == NONE) {
                return at + 3;
            }
            lawOf[laws] = falls;
            lawFor[laws] = other;
            lawKind[laws] = kind;
            laws++;
            return NONE;
        }

        int huskAt(int where) {
            for (int husk = 0; husk < husks; husk++) {
                if (place[husk] == where) {
                    return husk;
                }
            }
            return NONE;
        }

        int loosensBy(int thrower) {
            return force[thrower] + (throwerKind[thrower] == NAVVY ? 2 : 0);
        }

        int landing(int thrower, int where, int luck, int wind) {
            int at = where + astray(thrower, luck) + drift(thrower, wind);
            return isPlace(at) ? at : OFF;
        }

        /** Whether there is a place to throw at so that a straight throw lands where the husk is. */
        boolean reaches(int thrower, int husk, int wind) {
            return isPlace(place[husk] - drift(thrower, wind));
        }

        private int astray(int thrower, int luck) {
            if (luck == STRAIGHT) {
                return 0;
            }
            int far = aim[thrower] + (throwerKind[thrower] == NAVVY ? 1 : 0);
            boolean left = throwerKind[thrower] == LEFT;
            return (luck == OVER) != left ? far : -far;
        }

        private int drift(int thrower, int wind) {
            return throwerKind[thrower] == CURATE ? 0 : wind - NO_WIND;
        }
    }

    /** What acts change: how the husks stand, the wind, what is paid for. */
    private static final class Stand {
        final int[] loose = new int[MOST_HUSKS];
        final int[] hits = new int[MOST_HUSKS];
        int down = 0;
        int halved = 0;
        int nailed = 0;
        int wind = NO_WIND;
        int paid = 0;

        void makeAnew(Booth booth) {
            down = 0;
            halved = 0;
            nailed = 0;
            wind = booth.windAtFirst;
            paid = booth.paidAtFirst;
            for (int husk = 0; husk < MOST_HUSKS; husk++) {
                loose[husk] = 0;
                hits[husk] = 0;
                if (husk < booth.husks && booth.huskKind[husk] == NAILED) {
                    nailed |= 1 << husk;
                }
            }
        }

        void becomeAs(Stand other) {
            System.arraycopy(other.loose, 0, loose, 0, MOST_HUSKS);
            System.arraycopy(other.hits, 0, hits, 0, MOST_HUSKS);
            down = other.down;
            halved = other.halved;
            nailed = other.nailed;
            wind = other.wind;
            paid = other.paid;
        }

        boolean isUp(int husk) {
            return (down & 1 << husk) == 0;
        }

        int howManyDown() {
            return Integer.bitCount(down);
        }

        int firmness(Booth booth, int husk) {
            int firm = booth.hold[husk] + NAIL_HOLDS * bit(nailed, husk);
            if (bit(halved, husk) == 1) {
                firm = firm / 2;
            }
            if (booth.huskKind[husk] == BALD) {
                firm = firm - hits[husk];
            }
            return Math.max(1, firm);
        }

        /** Sets a husk up that is down; answers whether it was. */
        boolean setUp(int husk) {
            int itself = 1 << husk;
            if ((down & itself) == 0) {
                return false;
            }
            down ^= itself;
            loose[husk] = 0;
            return true;
        }

        /** Puts a nail in, or draws it, if the husk stands; answers whether it does. */
        boolean turnNail(int husk) {
            if (!isUp(husk)) {
                return false;
            }
            nailed ^= 1 << husk;
            return true;
        }

        /** More throws are paid for, if more can be; answers whether they can. */
        boolean takePenny() {
            if (paid >= MOST_PAID) {
                return false;
            }
            paid = Math.min(MOST_PAID, paid + THROWS_A_PENNY);
            return true;
        }

        /** Throws; answers what fell by it, as bits. */
        int throwBy(Booth booth, int thrower, int where, int luck) {
            int husk = booth.huskAt(booth.landing(thrower, where, luck, wind));
            if (husk == NONE || !isUp(husk)) {
                return 0;
            }
            return strike(booth, thrower, husk);
        }

        boolean canBeThrownAt(Booth booth, int thrower, int husk) {
            return isUp(husk) && booth.reaches(thrower, husk, wind);
        }

        /** A thrower hits a husk that stands; answers what fell by it, as bits. */
        int strike(Booth booth, int thrower, int husk) {
            loose[husk] += booth.loosensBy(thrower);
            hits[husk]++;
            if (loose[husk] < firmness(booth, husk)) {
                return 0;
            }
            if (booth.huskKind[husk] == SPLIT && bit(halved, husk) == 0) {
                halved |= 1 << husk;
                loose[husk] = 0;
                return 0;
            }
            return fall(booth, this, husk, 0, 0);
        }

        /** A husk falls and its laws are gone through; answers what fell by this throw till then. */
        private static int fall(Booth booth, Stand stand, int husk, int fallen, int depth) {
            // By one throw no husk falls twice, so it never goes deeper than there are husks.
            if (depth >= MOST_HUSKS) {
                return fallen;
            }
            stand.down |= 1 << husk;
            int all = fallen | 1 << husk;
            for (int law = 0; law < booth.laws; law++) {
                if (booth.lawOf[law] != husk) {
                    continue;
                }
                int other = booth.lawFor[law];
                if (booth.lawKind[law] == SETS_UP) {
                    stand.setUp(other);
                } else if (stand.isUp(other) && bit(all, other) == 0) {
                    all = fall(booth, stand, other, all, depth + 1);
                }
            }
            return all;
        }
    }

    /** How all stood ahead of each of the last acts. */
    private static final class Acts {
        final Stand[] before = newStands(MOST_ACTS);
        int first = 0;
        int count = 0;

        void remember(Stand stand) {
            before[(first + count) % MOST_ACTS].becomeAs(stand);
            if (count < MOST_ACTS) {
                count++;
            } else {
                first = (first + 1) % MOST_ACTS;
            }
        }

        boolean takeBack(Stand stand) {
            if (count == 0) {
                return false;
            }
            count--;
            stand.becomeAs(before[(first + count) % MOST_ACTS]);
            return true;
        }

        void forgetAll() {
            first = 0;
            count = 0;
        }
    }

    /** What was kept. */
    private static final class Slots {
        final Stand[] kept = newStands(SLOTS);
        final boolean[] used = new boolean[SLOTS];

        boolean put(int slot, Stand stand) {
            if (slot < 0 || slot >= SLOTS) {
                return false;
            }
            kept[slot].becomeAs(stand);
            used[slot] = true;
            return true;
        }

        boolean get(int slot, Stand stand) {
            if (slot < 0 || slot >= SLOTS || !used[slot]) {
                return false;
            }
            stand.becomeAs(kept[slot]);
            return true;
        }

        void forgetAll() {
            for (int slot = 0; slot < SLOTS; slot++) {
                used[slot] = false;
            }
        }
    }

    /** What was seen to fall, or not, by how much force. */
    private static final class Sightings {
        final int[] husks = new int[MOST_SEEN];
        final int[] forces = new int[MOST_SEEN];
        final int[] fell = new int[MOST_SEEN];
        int count = 0;

        boolean append(int husk, int force, int fall) {
            if (count >= MOST_SEEN) {
                return false;
            }
            husks[count] = husk;
            forces[count] = force;
            fell[count] = fall;
            count++;
            return true;
        }

        int holdsOf(int husk, int byNail) {
            int bits = 0;
            for (int hold = 1; hold <= MOST_HOLD; hold++) {
                if (agree(husk, hold + byNail)) {
                    bits |= 1 << hold;
                }
            }
            return bits;
        }

        private boolean agree(int husk, int firm) {
            for (int i = 0; i < count; i++) {
                int falls = forces[i] >= firm ? 1 : 0;
                if (husks[i] == husk && falls != fell[i]) {
                    return false;
                }
            }
            return true;
        }
    }

    /** Tries throws on stands of its own, one for each throw of a row, so that nothing changes. */
    private static final class Seeker {
        private static final int SETS = 0, NAILS = 5, PAYS = 6;
        final Stand[] tries = newStands(MOST_THROWERS + 1);
        int mostDown = 0;
        int firstFigures = 1;

        int downBehind(Booth booth, Stand now, int thrower, int where, int luck) {
            tries[0].becomeAs(now);
            tries[0].throwBy(booth, thrower, where, luck);
            return tries[0].down;
        }

        /** The least row of just so many throws behind which the husk is down; NONE. */
        int firstRow(Booth booth, Stand now, int husk, int many) {
            tries[0].becomeAs(now);
            return rowFrom(tries, booth, husk, 0, many);
        }

        private static int rowFrom(Stand[] tries, Booth booth, int husk, int depth, int many) {
            Stand now = tries[depth];
            if (depth >= many || depth >= MOST_ROW) {
                return now.isUp(husk) ? NONE : 0;
            }
            for (int thrower = 0; thrower < booth.throwers; thrower++) {
                for (int at = 0; at < booth.husks; at++) {
                    if (!now.canBeThrownAt(booth, thrower, at)) {
                        continue;
                    }
                    tries[depth + 1].becomeAs(now);
                    tries[depth + 1].strike(booth, thrower, at);
                    int rest = rowFrom(tries, booth, husk, depth + 1, many);
                    if (rest != NONE) {
                        return (10 * (thrower + 1) + at + 1) * hundreds(many - depth - 1) + rest;
                    }
                }
            }
            return NONE;
        }

        /** Finds mostDown and firstFigures, if only these throwers (bits) throw; answers mostDown. */
        int matchAmong(Booth booth, Stand now, int among) {
            mostDown = NONE;
            firstFigures = 1;
            tries[0].becomeAs(now);
            matchFrom(this, booth, among, 0, 1);
            return mostDown;
        }

        private static void matchFrom(Seeker seeker, Booth booth, int among, int thrower, int figures) {
            Stand now = seeker.tries[thrower];
            if (thrower >= booth.throwers || thrower >= MOST_THROWERS) {
                seeker.weigh(now.howManyDown(), figures);
                return;
            }
            Stand then = seeker.tries[thrower + 1];
            then.becomeAs(now);
            matchFrom(seeker, booth, among, thrower + 1, 10 * figures);
            if (bit(among, thrower) == 0) {
                return;
            }
            for (int husk = 0; husk < booth.husks; husk++) {
                if (now.canBeThrownAt(booth, thrower, husk)) {
                    then.becomeAs(now);
                    then.strike(booth, thrower, husk);
                    matchFrom(seeker, booth, among, thrower + 1, 10 * figures + husk + 1);
                }
            }
        }

        private void weigh(int howManyDown, int figures) {
            // Rows come by their number, so of like ones the first is the least.
            if (howManyDown > mostDown) {
                mostDown = howManyDown;
                firstFigures = figures;
            }
        }

        int fewestNails(Booth booth, Stand now, int husk) {
            int free = ((1 << booth.husks) - 1) & ~now.down & ~now.nailed;
            for (int many = 0; many <= booth.husks; many++) {
                for (int bits = 0; bits < 1 << booth.husks; bits++) {
                    if (Integer.bitCount(bits) == many && (bits & ~free) == 0
                            && staysUp(booth, now, husk, bits)) {
                        return bits;
                    }
                }
            }
            return NONE;
        }

        private boolean staysUp(Booth booth, Stand now, int husk, int nails) {
            for (int thrower = 0; thrower < booth.throwers; thrower++) {
                for (int at = 0; at < booth.husks; at++) {
                    if (!now.canBeThrownAt(booth, thrower, at)) {
                        continue;
                    }
                    tries[0].becomeAs(now);
                    tries[0].nailed |= nails;
                    tries[0].strike(booth, thrower, at);
                    if (!tries[0].isUp(husk)) {
                        return false;
                    }
                }
            }
            return true;
        }

        int firstThatCanNotBe(Booth booth, Stand now, int n, int doings) {
            tries[0].becomeAs(now);
            for (int i = 0; i < n; i++) {
                int doing = doings / hundreds(n - 1 - i) % 100;
                if (!couldBeDone(booth, tries[0], doing / 10, doing % 10)) {
                    return i;
                }
            }
            return NONE;
        }

        /** Does it, if it can be; answers whether it can. */
        private static boolean couldBeDone(Booth booth, Stand stand, int what, int husk) {
            if (what == PAYS) {
                return husk == 0 && stand.takePenny();
            }
            if (!booth.isHusk(husk)) {
                return false;
            }
            if (what == SETS) {
                return stand.setUp(husk);
            }
            if (what == NAILS) {
                return stand.turnNail(husk);
            }
            int thrower = what - 1;
            if (!booth.isThrower(thrower) || stand.paid == 0
                    || !stand.canBeThrownAt(booth, thrower, husk)) {
                return false;
            }
            stand.paid--;
            stand.strike(booth, thrower, husk);
            return true;
        }
    }

    /** Throws by luck, on stands of its own, so that nothing changes. */
    private static final class Chances {
        /** Tenths, and each half of what is left of them, are whole numbers of twentieths. */
        private static final int WAYS_OF_ONE = 20;
        final Stand[] tries = newStands(MOST_ODDS + 1);
        int thrower = 0;
        int place = 0;
        int tenths = 0;

        /** Of all ways of so many throws, by how many the husk is down behind them. */
        int waysDown(Booth booth, Stand now, int husk, int many) {
            tries[0].becomeAs(now);
            return waysFrom(this, booth, husk, 0, many);
        }

        static int allWays(int many) {
            int all = 1;
            for (int i = 0; i < many; i++) {
                all *= WAYS_OF_ONE;
            }
            return all;
        }

        private static int waysFrom(Chances by, Booth booth, int husk, int depth, int many) {
            Stand now = by.tries[depth];
            if (depth >= many || depth >= MOST_ODDS) {
                return now.isUp(husk) ? 0 : 1;
            }
            int ways = 0;
            for (int luck = STRAIGHT; luck <= UNDER; luck++) {
                Stand then = by.tries[depth + 1];
                then.becomeAs(now);
                then.throwBy(booth, by.thrower, by.place, luck);
                int waysOfLuck = luck == STRAIGHT ? 2 * by.tenths : 10 - by.tenths;
                ways += waysOfLuck * waysFrom(by, booth, husk, depth + 1, many);
            }
            return ways;
        }

        void startFrom(Stand now) {
            tries[0].becomeAs(now);
        }

        /** One throw more since the start, if there is such a thrower: how many are down then. */
        int downBehindDrawn(Booth booth, int drawn) {
            int by = drawn / 24;
            if (booth.isThrower(by)) {
                tries[0].throwBy(booth, by, drawn % 24 / 3, drawn % 3);
            }
            return tries[0].howManyDown();
        }
    }

    /** Two parties, each with a choice of its own: none (0), or a husk (its number and 1). */
    private static final class Parties {
        private static final int CHOICES = MOST_HUSKS + 1;
        final int[] worthToOne = new int[CHOICES * CHOICES];
        final int[] worthToOther = new int[CHOICES * CHOICES];
        final Stand tried = new Stand();
        int count = 0;
        int first = NONE;

        /** Finds how many pairs are at rest, and the first one. */
        void settle(Booth booth, Stand now) {
            for (int one = 0; one <= booth.husks; one++) {
                for (int other = 0; other <= booth.husks; other++) {
                    weigh(booth, now, one, other);
                }
            }
            count = 0;
            first = NONE;
            for (int one = 0; one <= booth.husks; one++) {
                for (int other = 0; other <= booth.husks; other++) {
                    if (isRest(booth.husks, one, other)) {
                        first = count == 0 ? 10 * one + other : first;
                        count++;
                    }
                }
            }
        }

        private void weigh(Booth booth, Stand now, int one, int other) {
            tried.becomeAs(now);
            int at = one * CHOICES + other;
            worthToOne[at] = -costOf(booth, 0, one);
            worthToOther[at] = -costOf(booth, 1, other);
            for (int husk = 0; husk < booth.husks; husk++) {
                if (!tried.isUp(husk)) {
                    worthToOne[at] += husk + 1;
                    worthToOther[at] += MOST_HUSKS - husk;
                }
            }
        }

        /** Throws, if that choice can be; answers what that costs. */
        private int costOf(Booth booth, int thrower, int choice) {
            int husk = choice - 1;
            if (!booth.isHusk(husk) || !tried.canBeThrownAt(booth, thrower, husk)) {
                return 0;
            }
            tried.strike(booth, thrower, husk);
            return 1;
        }

        private boolean isRest(int husks, int one, int other) {
            int at = one * CHOICES + other;
            for (int choice = 0; choice <= husks; choice++) {
                if (worthToOne[choice * CHOICES + other] > worthToOne[at]
                        || worthToOther[one * CHOICES + choice] > worthToOther[at]) {
                    return false;
                }
            }
            return true;
        }
    }
}

/** Promises 26 to 29: two parties at rest, odds, the seed, fairs by it. */
public final class ChancesTest {
    private static final int UNKNOWN = -1, BAD = -2, NONE = -9;
    private static final Checks CHECKS = new Checks();

    public static void main(String[] args) {
        promise26Rests();
        promise26NoRest();
        promise26RestsRefused();
        promise27Odds();
        promise27OddsByLaw();
        promise27OddsRefused();
        promise28Seed();
        promise29Fairs();
        promise29FairsThrown();
        CHECKS.end("ChancesTest");
    }

    private static void due(String call, long got, long want) {
        CHECKS.due(call, got, want);
    }

    private static void rests(String text, int many, int first) {
        CoconutShies x = Checks.fairOf(text);
        due("26 how many, " + text, x.rests(0), many);
        due("26 the first one, " + text, x.rests(1), first);
    }

    private static void promise26Rests() {
        // Nobody can fell anything: to throw costs 1, so none does.
        rests("S10T090T090", 1, 0);
        rests("S10H091T010T010", 1, 0);
        // Out of reach is none, and costs nothing: all four pairs are alike.
        rests("S20H010T090T090", 4, 0);
        // Two husks, each worth a throw: 1, 2 to the one, 5, 4 to the other one.
        rests("S10H010H110T090T090", 2, 12);
        // One husk, worth just a throw to the one, 5 to the other one: either throws, not both,
        // as the one would rather have it thrown at.
        rests("S10H010T090T090", 2, 1);
        // Only the other one's throw fells it; the one never throws.
        rests("S10H030T010T090T090", 1, 1);
        // Of three husks the last is worth most to the one, 3, the first to the other one, 5.
        rests("S10H010H110H210T090T090", 1, 31);
        // It takes both, 2 less 1 to the one (husk 1), 4 less 1 to the other one.
        rests("S10H091H190T050T050", 2, 0);
    }

    /**
     * With husk 2 down and husk 3 loose: the one fells 4 and 0, so the other fells 1 (which sets 4
     * up), so the one fells 3 instead, so the other fells 0, so the one fells 4 and 0.
     */
    private static void promise26NoRest() {
        CoconutShies x = Checks.fairOf("S19H040H150H220H370H480T090T050L141L420L400");
        due("26 ahead of that there is one", x.rests(1) >= 0 ? 1 : 0, 1);
        x.toss(0, 2, 0);
        x.toss(1, 3, 0);
        due("26 no rest", x.rests(0), 0);
        due("26 no first one", x.rests(1), NONE);
    }

    private static void promise26RestsRefused() {
        due("26 nobody", new CoconutShies().rests(0), UNKNOWN);
        CoconutShies one = Checks.fairOf("S10H010T090");
        due("26 one alone", one.rests(0), UNKNOWN);
        due("26 unknown is told first", one.rests(2), UNKNOWN);
        CoconutShies two = Checks.fairOf("S10H010T090T090");
        due("26 rests(2)", two.rests(2), BAD);
        due("26 rests(-1)", two.rests(-1), BAD);
    }

    private static void odds(CoconutShies x, int place, int n, int husk, int tenths, int above, int below) {
        String call = "27 odds(0, " + place + ", " + n + ", " + husk + ", " + tenths + ")";
        due(call + " above", x.odds(0, place, n, husk, tenths, true), above);
        due(call + " below", x.odds(0, place, n, husk, tenths, false), below);
    }

    private static void promise27Odds() {
        CoconutShies x = Checks.fairOf("S10H210H520T110");
        odds(x, 2, 1, 0, 7, 7, 10);
        odds(x, 2, 1, 0, 10, 1, 1);
        odds(x, 2, 1, 0, 0, 0, 1);
        odds(x, 1, 1, 0, 7, 3, 20);
        odds(x, 3, 1, 0, 7, 3, 20);
        odds(x, 3, 1, 0, 0, 1, 2);
        odds(x, 4, 1, 0, 5, 0, 1);
        odds(x, 2, 2, 0, 5, 3, 4);
        odds(x, 2, 4, 0, 5, 15, 16);
        odds(x, 5, 1, 1, 5, 0, 1);
        odds(x, 5, 2, 1, 7, 49, 100);
        // Two hits at least of three, 3 * 7/10 * 7/10 * 3/10 and 7/10 * 7/10 * 7/10.
        odds(x, 5, 3, 1, 7, 98, 125);
        CoconutShies y = Checks.fairOf("S10H240T110");
        odds(y, 2, 4, 0, 7, 2401, 10000);
        odds(y, 1, 4, 0, 7, 81, 160000);
        CoconutShies z = Checks.fairOf("S20H210T011");
        odds(z, 2, 1, 0, 3, 1, 1);
        CoconutShies two = Checks.fairOf("S10H210T010T210");
        due("27 of the second thrower", two.odds(1, 0, 1, 0, 6, true), 1);
        due("27 of the second thrower", two.odds(1, 0, 1, 0, 6, false), 5);
    }

    private static void promise27OddsByLaw() {
        CoconutShies x = Checks.fairOf("S11H210H310T190L101");
        x.toss(0, 2, 0);
        // It is down at first, and is up again behind a fall of the other one (straight).
        odds(x, 3, 1, 0, 6, 2, 5);
        // Behind two: up by straight, down again by under (each at place 3), or never up.
        // Never straight first: 4/10 over or under, then not straight 4/10; straight, then under 2/10.
        odds(x, 3, 2, 0, 6, 7, 25);
        due("27 not paid for", x.about(4), 0);
        due("27 nothing changes", x.about(5), 1);
    }

    private static void promise27OddsRefused() {
        CoconutShies x = Checks.fairOf("S10H210T110");
        due("27 odds(1, ..)", x.odds(1, 9, 9, 0, 99, true), UNKNOWN);
        due("27 odds(-1, ..)", x.odds(-1, 0, 1, 0, 5, true), UNKNOWN);
        due("27 husk 1", x.odds(0, 9, 9, 1, 99, true), UNKNOWN);
        due("27 husk -1", x.odds(0, 0, 1, -1, 5, true), UNKNOWN);
        due("27 place 8", x.odds(0, 8, 1, 0, 5, true), BAD);
        due("27 place -1", x.odds(0, -1, 1, 0, 5, true), BAD);
        due("27 n 0", x.odds(0, 0, 0, 0, 5, true), BAD);
        due("27 n 5", x.odds(0, 0, 5, 0, 5, true), BAD);
        due("27 x -1", x.odds(0, 0, 1, 0, -1, true), BAD);
        due("27 x 11", x.odds(0, 0, 1, 0, 11, true), BAD);
    }

    private static void promise28Seed() {
        CoconutShies x = new CoconutShies();
        due("28 seed(5)", x.seed(5), 0);
        due("28 seed(MIN)", x.seed(Long.MIN_VALUE), 5);
        due("28 seed(MAX)", x.seed(Long.MAX_VALUE), Long.MIN_VALUE);
        due("28 seed(-1)", x.seed(-1), Long.MAX_VALUE);
        due("28 seed(0)", x.seed(0), -1);
        x.fairs(1);
        due("28 one step", x.seed(0), 1442695040888963407L);
    }

    private static long stepsOf(long seed, int m) {
        long x = seed;
        for (int i = 0; i < m; i++) {
            x = x * 6364136223846793005L + 1442695040888963407L;
        }
        return x;
    }

    private static void promise29Fairs() {
        CoconutShies x = Checks.fairOf("S11H010H310T090");
        due("29 fairs(0)", x.fairs(0), BAD);
        due("29 fairs(31)", x.fairs(31), BAD);
        due("29 fairs(-1)", x.fairs(-1), BAD);
        due("29 the seed stays", x.seed(9), 0);
        x.fairs(30);
        due("29 the seed behind 30", x.seed(0), stepsOf(9, 30));
        due("29 nothing else changes", x.about(5), 0);
        due("29 nothing is paid for", x.about(4), 1);
        due("29 no act", x.about(6), 0);
        CoconutShies y = Checks.fairOf("S11H010T090");
        y.toss(0, 0, 0);
        due("29 the only one is down each time", y.fairs(30), 30);
        due("29 the only one is down once", y.fairs(1), 1);
        CoconutShies z = Checks.fairOf("S11H010H210H410");
        due("29 nobody throws", z.fairs(30), 0);
        due("29 the seed goes on", z.seed(0), stepsOf(0, 30));
    }

    /** Which throw comes first, told by upper 31 bits of the first step, as the document tells it. */
    private static void promise29FairsThrown() {
        for (long seed = 0; seed < 300; seed++) {
            long drawn = (stepsOf(seed, 1) >>> 33) % 96;
            int thrower = (int) (drawn / 24);
            int place = (int) (drawn % 24 / 3);
            int luck = (int) (drawn % 3);
            CoconutShies x = Checks.fairOf("S29H010H210H310H510H710T110T211T112");
            x.seed(seed);
            int want = thrower < 3 ? Integer.bitCount(x.felled(thrower, place, luck)) : 0;
            due("29 fairs(1) by " + seed, x.fairs(1), want);
        }
        // Throws of one call come one behind the other: what fell stays down.
        CoconutShies x = Checks.fairOf("S19H010H110H210H310H410T091T091T091T091");
        int[] down = new int[31];
        for (int m = 1; m <= 30; m++) {
            down[m] = together(x, m) - (m == 1 ? 0 : together(x, m - 1));
            due("29 as many are down as ahead of it, or one more, " + m,
                    down[m] == down[m - 1] || down[m] == down[m - 1] + 1 ? 1 : 0, 1);
        }
        due("29 all five are down in the end", down[30], 5);
    }

    private static int together(CoconutShies x, int m) {
        x.seed(12345);
        return x.fairs(m);
    }
}

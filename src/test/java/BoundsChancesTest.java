import java.math.BigInteger;

/** Promises 26 to 29: each sentence that names a boundary case, in a test of its own. */
public final class BoundsChancesTest {
    private static final int UNKNOWN = -1, BAD = -2, NONE = -9;
    private static final int LEAST = Integer.MIN_VALUE, MOST = Integer.MAX_VALUE;
    private static final BigInteger TIMES = new BigInteger("6364136223846793005");
    private static final BigInteger MORE = new BigInteger("1442695040888963407");
    private static final BigInteger WHOLE = BigInteger.ONE.shiftLeft(64);
    private static final long[] SEEDS = {0, 1, -1, 77, 123456789, -987654321, Long.MAX_VALUE, Long.MIN_VALUE,
        Long.MAX_VALUE / 3, Long.MIN_VALUE / 7, 1L << 33, 1L << 62, -(1L << 33)};
    private static final Checks CHECKS = new Checks();

    public static void main(String[] args) {
        Sentences.runAll(BoundsChancesTest.class, CHECKS);
    }

    private static void due(String call, long got, long want) {
        CHECKS.due(call, got, want);
    }

    // ---- 26 rests

    private static void rests(String text, int many, int first) {
        CoconutShies x = Checks.fairOf(text);
        due("rests(0) of " + text, x.rests(0), many);
        due("rests(1) of " + text, x.rests(1), first);
    }

    @Says("UNKNOWN: there are not two THROWERS")
    private static void promise26WithFewerThanTwoThrowersItIsUnknown() {
        due("rests(0) of a new one", new CoconutShies().rests(0), UNKNOWN);
        CHECKS.leavesAlone("rests(0)", () -> Checks.fairOf("S19H010"), x -> x.rests(0), UNKNOWN);
        CHECKS.leavesAlone("rests(1)", () -> Checks.fairOf("S19H010T090"), x -> x.rests(1), UNKNOWN);
    }

    @Says("UNKNOWN: there are not two THROWERS")
    private static void promise26OfMoreThanTwoThrowersTheFirstTwoThrow() {
        rests("S10H010T090T090", 2, 1);
        rests("S10H010T090T090T090", 2, 1);
        rests("S10H010T090T090T090T093", 2, 1);
        // Only the third one could fell it.
        rests("S10H091T010T010T093", 1, 0);
    }

    @Says("BAD")
    private static void promise26WhatButFor0And1IsBad() {
        CHECKS.leavesBusyAlone("rests(-1)", x -> x.rests(-1), BAD);
        CHECKS.leavesBusyAlone("rests(2)", x -> x.rests(2), BAD);
        CHECKS.leavesBusyAlone("rests(LEAST)", x -> x.rests(LEAST), BAD);
        CHECKS.leavesBusyAlone("rests(MOST)", x -> x.rests(MOST), BAD);
    }

    @Says("Of several what is told first.")
    private static void promise26UnknownIsToldAheadOfBad() {
        due("rests(2) of one alone", Checks.fairOf("S19H010T090").rests(2), UNKNOWN);
        due("rests(-1) of a new one", new CoconutShies().rests(-1), UNKNOWN);
    }

    @Says({"NONE", "how many; the first one (10 times the one and the other); NONE."})
    private static void promise26WhereNoPairIsAtRestThereIsNone() {
        CoconutShies x = Checks.fairOf("S19H040H150H220H370H480T090T050L141L420L400");
        due("rests(1) ahead of that, there is one (1)", x.rests(1) >= 0 ? 1 : 0, 1);
        x.toss(0, 2, 0);
        x.toss(1, 3, 0);
        due("rests(0)", x.rests(0), 0);
        due("rests(1)", x.rests(1), NONE);
    }

    @Says("pairs (HUSK and 1; 0: none)")
    private static void promise26WithNoHuskThereIsOnePair() {
        rests("S10T090T090", 1, 0);
    }

    @Says("pairs (HUSK and 1; 0: none) in which neither has more by another choice alone")
    private static void promise26WhereAllAreDownAllPairsAreAlike() {
        CoconutShies x = Checks.fairOf("S11H010H110H210H310H410T091T091L010L120L230L340");
        x.toss(0, 0, 0);
        due("rests(0)", x.rests(0), 36);
        due("rests(1)", x.rests(1), 0);
    }

    @Says("(what can not be thrown AT is none, and costs nothing)")
    private static void promise26WhatIsOutOfReachOrDownCostsNothing() {
        rests("S20H010T090T090", 4, 0);
        rests("S00H710T090T090", 4, 0);
        CoconutShies x = Checks.fairOf("S11H010T090T090");
        x.toss(0, 0, 0);
        due("rests(0), it is down", x.rests(0), 4);
        due("rests(1), it is down", x.rests(1), 0);
    }

    @Says("a HUSK i that is down then is worth i and 1 to the one, 5 less i to the other one; a THROW costs 1")
    private static void promise26TheFirstHuskIsWorthAThrowToTheOneAndTheLastToTheOther() {
        // Husk 0 is worth 1 to the one, 5 to the other one; husk 4 is worth 5 and 1. Who would have
        // it for 1 does not throw if the other one does; to whom it is worth just 1 all is alike.
        rests("S10H010T010T010", 2, 1);
        rests("S10H091H191H291H391H410T010T010", 2, 5);
    }

    @Says("the one throws first")
    private static void promise26TheOneThrowsFirst() {
        // By a throw at 0 both fall and 0 is set up; the other one then fells 0, by no law. Pairs at
        // rest are 01, 02 and 11; if the other one threw first, 12 were one, too.
        rests("S10H010H190T010T090L010L101", 3, 1);
    }

    @Says("In what follows nothing is changed, no THROW is paid for")
    private static void promise26NothingIsChangedOrPaidFor() {
        CHECKS.leavesBusyAlone("rests(0)", x -> x.rests(0), 1);
        CHECKS.leavesBusyAlone("rests(1)", x -> x.rests(1), 42);
        rests("S10H010T090T090", 2, 1);
    }

    // ---- 27 odds

    private static void odds(CoconutShies x, int place, int n, int husk, int tenths, int above, int below) {
        String call = "odds(0, " + place + ", " + n + ", " + husk + ", " + tenths;
        due(call + ", true)", x.odds(0, place, n, husk, tenths, true), above);
        due(call + ", false)", x.odds(0, place, n, husk, tenths, false), below);
    }

    @Says("UNKNOWN: thrower, husk")
    private static void promise27AThrowerThatThereIsNotIsUnknown() {
        CHECKS.leavesBusyAlone("odds(-1, ..)", x -> x.odds(-1, 0, 1, 0, 5, true), UNKNOWN);
        CHECKS.leavesBusyAlone("odds(2, ..)", x -> x.odds(2, 0, 1, 0, 5, true), UNKNOWN);
        CHECKS.leavesBusyAlone("odds(LEAST, ..)", x -> x.odds(LEAST, 0, 1, 0, 5, false), UNKNOWN);
        CHECKS.leavesBusyAlone("odds(MOST, ..)", x -> x.odds(MOST, 0, 1, 0, 5, false), UNKNOWN);
    }

    @Says("UNKNOWN: thrower, husk")
    private static void promise27AHuskThatThereIsNotIsUnknown() {
        CHECKS.leavesBusyAlone("husk -1", x -> x.odds(0, 0, 1, -1, 5, true), UNKNOWN);
        CHECKS.leavesBusyAlone("husk 4", x -> x.odds(0, 0, 1, 4, 5, true), UNKNOWN);
        CHECKS.leavesBusyAlone("husk LEAST", x -> x.odds(0, 0, 1, LEAST, 5, false), UNKNOWN);
        CHECKS.leavesBusyAlone("husk MOST", x -> x.odds(0, 0, 1, MOST, 5, false), UNKNOWN);
    }

    @Says("BAD: place, n, x")
    private static void promise27APlaceOutside0To7IsBad() {
        CHECKS.leavesBusyAlone("place -1", x -> x.odds(0, -1, 1, 0, 5, true), BAD);
        CHECKS.leavesBusyAlone("place 8", x -> x.odds(0, 8, 1, 0, 5, true), BAD);
        CHECKS.leavesBusyAlone("place LEAST", x -> x.odds(0, LEAST, 1, 0, 5, true), BAD);
        CHECKS.leavesBusyAlone("place MOST", x -> x.odds(0, MOST, 1, 0, 5, true), BAD);
    }

    @Says({"BAD: place, n, x", "n (1 .. 4) THROWS and a HUSK"})
    private static void promise27AnNOutside1To4IsBad() {
        CHECKS.leavesBusyAlone("n 0", x -> x.odds(0, 0, 0, 0, 5, true), BAD);
        CHECKS.leavesBusyAlone("n 5", x -> x.odds(0, 0, 5, 0, 5, true), BAD);
        CHECKS.leavesBusyAlone("n LEAST", x -> x.odds(0, 0, LEAST, 0, 5, true), BAD);
        CHECKS.leavesBusyAlone("n MOST", x -> x.odds(0, 0, MOST, 0, 5, true), BAD);
    }

    @Says({"BAD: place, n, x", "each is straight by x tenths (0 .. 10)"})
    private static void promise27AnXOutside0To10IsBad() {
        CHECKS.leavesBusyAlone("x -1", x -> x.odds(0, 0, 1, 0, -1, true), BAD);
        CHECKS.leavesBusyAlone("x 11", x -> x.odds(0, 0, 1, 0, 11, true), BAD);
        CHECKS.leavesBusyAlone("x LEAST", x -> x.odds(0, 0, 1, 0, LEAST, true), BAD);
        CHECKS.leavesBusyAlone("x MOST", x -> x.odds(0, 0, 1, 0, MOST, true), BAD);
    }

    @Says("Of several what is told first.")
    private static void promise27UnknownIsToldAheadOfBad() {
        due("odds(2, 8, ..)", Checks.busy().odds(2, 8, 1, 0, 5, true), UNKNOWN);
        due("odds(0, .., 5, 4, ..)", Checks.busy().odds(0, 0, 5, 4, 5, true), UNKNOWN);
        due("odds(0, .., 1, 4, 11, ..)", Checks.busy().odds(0, 0, 1, 4, 11, true), UNKNOWN);
    }

    @Says("each is straight by x tenths (0 .. 10)")
    private static void promise27By10TenthsEachIsStraight() {
        CoconutShies x = Checks.fairOf("S10H210H440T110");
        odds(x, 2, 1, 0, 10, 1, 1);
        odds(x, 2, 4, 0, 10, 1, 1);
        odds(x, 1, 4, 0, 10, 0, 1);
        odds(x, 4, 4, 1, 10, 1, 1);
        odds(x, 4, 3, 1, 10, 0, 1);
    }

    @Says("each is straight by x tenths (0 .. 10), by itself, else over or under, both as likely")
    private static void promise27By0TenthsNoneIsStraight() {
        CoconutShies x = Checks.fairOf("S10H210H440T110");
        odds(x, 2, 1, 0, 0, 0, 1);
        odds(x, 2, 4, 0, 0, 0, 1);
        odds(x, 1, 1, 0, 0, 1, 2);
        odds(x, 3, 1, 0, 0, 1, 2);
        odds(x, 1, 4, 0, 0, 15, 16);
        odds(x, 3, 4, 1, 0, 1, 16);
    }

    @Says("n (1 .. 4) THROWS and a HUSK")
    private static void promise27From1To4Throws() {
        CoconutShies x = Checks.fairOf("S10H210T110");
        odds(x, 2, 1, 0, 9, 9, 10);
        odds(x, 2, 2, 0, 9, 99, 100);
        odds(x, 2, 3, 0, 9, 999, 1000);
        odds(x, 2, 4, 0, 9, 9999, 10000);
    }

    @Says("FRACTIONS are told above (upper = true), below, in least terms.")
    private static void promise27TheGreatestBelow() {
        CoconutShies x = Checks.fairOf("S10H240T110");
        odds(x, 1, 4, 0, 1, 6561, 160000);
        odds(x, 1, 4, 0, 9, 1, 160000);
        odds(x, 1, 4, 0, 0, 1, 16);
        odds(x, 2, 4, 0, 5, 1, 16);
    }

    @Says("that the HUSK is down behind them: a FRACTION.")
    private static void promise27OneThatIsDownIs1Of1() {
        CoconutShies x = Checks.fairOf("S11H210H610T110");
        x.toss(0, 2, 0);
        odds(x, 2, 1, 0, 5, 1, 1);
        odds(x, 7, 4, 0, 0, 1, 1);
        odds(x, 4, 4, 1, 5, 0, 1);
    }

    @Says("that the HUSK is down behind them: a FRACTION.")
    private static void promise27OneThatIsSetUpByLawIsNotDown() {
        CoconutShies x = Checks.fairOf("S11H210H310T010L101");
        x.toss(0, 2, 0);
        odds(x, 3, 1, 0, 4, 0, 1);
        odds(x, 3, 4, 0, 4, 0, 1);
        odds(x, 3, 1, 1, 4, 1, 1);
    }

    @Says("It is OFF (8), if that is no PLACE.")
    private static void promise27WhatIsOffFellsNothing() {
        odds(Checks.fairOf("S10H710T110"), 7, 1, 0, 3, 3, 10);
        odds(Checks.fairOf("S10H010T110"), 0, 1, 0, 3, 3, 10);
        odds(Checks.fairOf("S10H710H010T110"), 0, 2, 0, 3, 0, 1);
    }

    @Says("In what follows nothing is changed, no THROW is paid for")
    private static void promise27NothingIsChangedOrPaidFor() {
        CHECKS.leavesBusyAlone("odds above", x -> x.odds(1, 1, 1, 1, 4, true), 2);
        CHECKS.leavesBusyAlone("odds below", x -> x.odds(1, 1, 1, 1, 4, false), 5);
        CHECKS.leavesBusyAlone("odds of 4", x -> x.odds(1, 1, 4, 1, 10, true), 1);
    }

    // ---- 28 seed

    @Says("THE SEED is v: what it was.")
    private static void promise28AnyLongIsASeed() {
        CoconutShies x = new CoconutShies();
        long was = 0;
        for (long seed : SEEDS) {
            due("seed(" + seed + ")", x.seed(seed), was);
            was = seed;
        }
        due("seed(0)", x.seed(0), was);
    }

    @Says("THE SEED is v: what it was.")
    private static void promise28NothingElseIsChanged() {
        CoconutShies x = Checks.busy();
        String before = Checks.stateOf(x);
        due("seed(LEAST)", x.seed(Long.MIN_VALUE), 77);
        CHECKS.sameState("seed(LEAST)", x, before);
        due("undo()", x.undo(), 6);
    }

    // ---- 29 fairs

    private static BigInteger next(BigInteger seed) {
        return seed.multiply(TIMES).add(MORE).mod(WHOLE);
    }

    private static int drawnOf(BigInteger x) {
        return x.shiftRight(33).mod(BigInteger.valueOf(96)).intValue();
    }

    @Says({"BAD: m", "m times (1 .. 30)"})
    private static void promise29AnMOutside1To30IsBad() {
        CHECKS.leavesBusyAlone("fairs(0)", x -> x.fairs(0), BAD);
        CHECKS.leavesBusyAlone("fairs(31)", x -> x.fairs(31), BAD);
        CHECKS.leavesBusyAlone("fairs(-1)", x -> x.fairs(-1), BAD);
        CHECKS.leavesBusyAlone("fairs(LEAST)", x -> x.fairs(LEAST), BAD);
        CHECKS.leavesBusyAlone("fairs(MOST)", x -> x.fairs(MOST), BAD);
    }

    @Says("m times (1 .. 30)")
    private static void promise29TheSeedGoesOnMTimes() {
        CoconutShies x = new CoconutShies();
        for (int m = 1; m <= 30; m++) {
            x.seed(m);
            due("fairs(" + m + ")", x.fairs(m), 0);
            BigInteger due = BigInteger.valueOf(m);
            for (int i = 0; i < m; i++) {
                due = next(due);
            }
            due("seed behind " + m, x.seed(0), due.longValue());
        }
    }

    @Says("becomes x times 6364136223846793005 and 1442695040888963407 (64 bits, wrapping)")
    private static void promise29TheSeedWraps() {
        CoconutShies x = new CoconutShies();
        for (long seed : SEEDS) {
            x.seed(seed);
            x.fairs(1);
            due("seed behind " + seed, x.seed(0), next(BigInteger.valueOf(seed)).longValue());
        }
        x.fairs(1);
        due("seed behind 0", x.seed(0), 1442695040888963407L);
    }

    /** How many are down behind the first throw by that seed, told apart by who throws where by which luck. */
    private static int firstDown(long seed) {
        int drawn = drawnOf(next(BigInteger.valueOf(seed)));
        int thrower = drawn / 24;
        int place = drawn % 24 / 3;
        int luck = drawn % 3;
        int lands = place + (luck == 1 ? 2 : luck == 2 ? -2 : 0);
        // Thrower 0 is too weak, there is none of number 2 or 3.
        return thrower == 1 && lands >= 2 && lands <= 6 ? 1 : 0;
    }

    @Says("what is left of its upper 31 bits by 96")
    private static void promise29UpperBitsHaveNoSign() {
        CoconutShies x = Checks.fairOf("S10H290H390H490H590H690T211T291");
        int below0 = 0;
        int down = 0;
        for (int i = 0; i < 200; i++) {
            long seed = i * 6700417L * (i % 2 == 0 ? 1 : -1);
            long then = next(BigInteger.valueOf(seed)).longValue();
            x.seed(seed);
            due("fairs(1) by " + seed, x.fairs(1), firstDown(seed));
            below0 += then < 0 ? 1 : 0;
            down += then < 0 ? firstDown(seed) : 0;
        }
        due("some are below 0 (1)", below0 > 20 ? 1 : 0, 1);
        due("by some of those one falls (1)", down > 5 ? 1 : 0, 1);
    }

    @Says("it throws, if there is such a one")
    private static void promise29AThrowerThatThereIsNotDoesNotThrow() {
        CoconutShies x = Checks.fairOf("S11H010H110H210T091");
        x.toss(0, 0, 0);
        int none = 0;
        for (long seed = 0; seed < 60; seed++) {
            int drawn = drawnOf(next(BigInteger.valueOf(seed)));
            int place = drawn % 24 / 3;
            x.seed(seed);
            boolean falls = drawn / 24 == 0 && (place == 1 || place == 2);
            due("fairs(1) by " + seed, x.fairs(1), falls ? 2 : 1);
            none += drawn / 24 > 0 && place < 3 ? 1 : 0;
        }
        due("some would be thrown by one that there is not (1)", none > 5 ? 1 : 0, 1);
    }

    @Says("how many HUSKS are down, each time, together.")
    private static void promise29AllFiveOrNoneEachTime() {
        CoconutShies x = Checks.fairOf("S11H010H110H210H310H410T091L010L120L230L340");
        x.toss(0, 0, 0);
        due("fairs(1), all are down", x.fairs(1), 5);
        due("fairs(30), all are down", x.fairs(30), 150);
        due("fairs(30), no husk", Checks.fairOf("S19T090T090T090T090").fairs(30), 0);
        due("fairs(30), nobody", Checks.fairOf("S19H010").fairs(30), 0);
        due("fairs(30) of a new one", new CoconutShies().fairs(30), 0);
    }

    @Says("(Nothing changes but THE SEED.)")
    private static void promise29NothingChangesButTheSeed() {
        CHECKS.leavesBusyAlone("fairs(30), the seed put back", x -> seedPutBack(x, x.fairs(30)), 77);
        CoconutShies x = Checks.busy();
        int first = x.fairs(30);
        x.seed(77);
        due("fairs(30) by the same seed", x.fairs(30), first);
        due("fairs(1), not paid for, one is down at least (1)", x.fairs(1) >= 1 ? 1 : 0, 1);
    }

    /** 77, if the seed went on and something was down. */
    private static long seedPutBack(CoconutShies x, int together) {
        boolean wentOn = x.seed(77) != 77 && together > 0;
        return wentOn ? 77 : 0;
    }
}

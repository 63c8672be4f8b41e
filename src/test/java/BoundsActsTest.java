import java.util.ArrayDeque;
import java.util.Deque;
import java.util.function.ToLongFunction;

/** Promises 10 to 15: each sentence that names a boundary case, in a test of its own. */
public final class BoundsActsTest {
    private static final int UNKNOWN = -1, BAD = -2, LATE = -3;
    private static final int LEAST = Integer.MIN_VALUE, MOST = Integer.MAX_VALUE;
    private static final Checks CHECKS = new Checks();

    public static void main(String[] args) {
        Sentences.runAll(BoundsActsTest.class, CHECKS);
    }

    private static void due(String call, long got, long want) {
        CHECKS.due(call, got, want);
    }

    /** Two throws were paid for and are thrown: both husks are down, the second one by law. */
    private static CoconutShies broke() {
        CoconutShies x = Checks.fairOf("S12H030H190T040L010");
        x.toss(0, 1, 0);
        x.keep(1);
        x.toss(0, 0, 0);
        x.see(1, 4, 0);
        x.seed(3);
        return x;
    }

    // ---- 10 toss

    @Says("UNKNOWN")
    private static void promise10AThrowerThatThereIsNotIsUnknown() {
        CHECKS.leavesBusyAlone("toss(-1, 0, 0)", x -> x.toss(-1, 0, 0), UNKNOWN);
        CHECKS.leavesBusyAlone("toss(2, 0, 0)", x -> x.toss(2, 0, 0), UNKNOWN);
        CHECKS.leavesBusyAlone("toss(LEAST, 0, 0)", x -> x.toss(LEAST, 0, 0), UNKNOWN);
        CHECKS.leavesBusyAlone("toss(MOST, 0, 0)", x -> x.toss(MOST, 0, 0), UNKNOWN);
        due("toss(0, 0, 0) with nobody", Checks.fairOf("S19H010").toss(0, 0, 0), UNKNOWN);
    }

    @Says({"BAD: place, luck", "7 in a row."})
    private static void promise10APlaceOutside0To7IsBad() {
        CHECKS.leavesBusyAlone("toss(0, -1, 0)", x -> x.toss(0, -1, 0), BAD);
        CHECKS.leavesBusyAlone("toss(0, 8, 0)", x -> x.toss(0, 8, 0), BAD);
        CHECKS.leavesBusyAlone("toss(0, LEAST, 0)", x -> x.toss(0, LEAST, 0), BAD);
        CHECKS.leavesBusyAlone("toss(0, MOST, 0)", x -> x.toss(0, MOST, 0), BAD);
        // A place that is none is bad, even if the wind would blow the throw to one.
        due("toss(0, -1, 0) by wind", Checks.fairOf("S29H010T010").toss(0, -1, 0), BAD);
        due("toss(0, 8, 0) by wind", Checks.fairOf("S09H710T010").toss(0, 8, 0), BAD);
    }

    @Says({"BAD: place, luck", "by LUCK (0 straight, 1 over, 2 under)"})
    private static void promise10LuckOutside0To2IsBad() {
        CHECKS.leavesBusyAlone("toss(0, 0, -1)", x -> x.toss(0, 0, -1), BAD);
        CHECKS.leavesBusyAlone("toss(0, 0, 3)", x -> x.toss(0, 0, 3), BAD);
        CHECKS.leavesBusyAlone("toss(0, 0, LEAST)", x -> x.toss(0, 0, LEAST), BAD);
        CHECKS.leavesBusyAlone("toss(0, 0, MOST)", x -> x.toss(0, 0, MOST), BAD);
    }

    @Says("LATE: it is not paid for")
    private static void promise10WhatIsNotPaidForIsLate() {
        CHECKS.leavesAlone("toss(0, 0, 0)", BoundsActsTest::broke, x -> x.toss(0, 0, 0), LATE);
        CHECKS.leavesAlone("toss(0, 7, 1)", BoundsActsTest::broke, x -> x.toss(0, 7, 1), LATE);
        due("toss(0, 0, 0), none was paid for", Checks.fairOf("S10H010T010").toss(0, 0, 0), LATE);
    }

    @Says("Of several what is told first.")
    private static void promise10UnknownIsToldAheadOfBadAndBadOfLate() {
        due("toss(1, 8, 3)", broke().toss(1, 8, 3), UNKNOWN);
        due("toss(-1, 0, 0)", broke().toss(-1, 0, 0), UNKNOWN);
        due("toss(0, 8, 0)", broke().toss(0, 8, 0), BAD);
        due("toss(0, 0, 3)", broke().toss(0, 0, 3), BAD);
    }

    @Says("THROWN: a THROW that is paid for (1 less).")
    private static void promise10TheLastThatIsPaidForIsThrown() {
        CoconutShies x = Checks.fairOf("S19H090T010");
        for (int left = 8; left >= 1; left--) {
            due("toss(0, 0, 0)", x.toss(0, 0, 0), 0);
            due("about(4)", x.about(4), left);
        }
        due("the ninth", x.toss(0, 0, 0), 1);
        due("about(4)", x.about(4), 0);
        due("the tenth", x.toss(0, 0, 0), LATE);
        due("about(6)", x.about(6), 9);
    }

    @Says("It is OFF (8), if that is no PLACE.")
    private static void promise10OffHitsNothingAndIsPaidFor() {
        CoconutShies x = Checks.fairOf("S13H010H710T190");
        due("over from 7", x.toss(0, 7, 1), 0);
        due("under from 0", x.toss(0, 0, 2), 0);
        due("husk(0, 5)", x.husk(0, 5), 0);
        due("husk(1, 5)", x.husk(1, 5), 0);
        due("about(4)", x.about(4), 1);
        due("about(6)", x.about(6), 2);
    }

    @Says("It hits a HUSK that stands there")
    private static void promise10AnEmptyPlaceIsNotHit() {
        CoconutShies x = Checks.fairOf("S13H010H210T090");
        due("toss(0, 1, 0)", x.toss(0, 1, 0), 0);
        due("husk(0, 5)", x.husk(0, 5), 0);
        due("husk(1, 5)", x.husk(1, 5), 0);
        due("about(4)", x.about(4), 2);
    }

    @Says("It hits a HUSK that stands there")
    private static void promise10OneThatIsDownIsNotHit() {
        CoconutShies x = Checks.fairOf("S13H030H110T040L010");
        due("toss(0, 0, 0)", x.toss(0, 0, 0), 3);
        x.set(1);
        due("toss(0, 0, 0) again", x.toss(0, 0, 0), 0);
        due("husk(0, 5)", x.husk(0, 5), 1);
        due("husk(0, 4)", x.husk(0, 4), 4);
        due("husk(1, 8)", x.husk(1, 8), 0);
    }

    @Says("It FALLS, when it is as LOOSE as it is FIRM, or more.")
    private static void promise10AsLooseAsFirmFallsAndOneLessStands() {
        for (int hold = 1; hold <= 9; hold++) {
            for (int force = 1; force <= 9; force++) {
                CoconutShies x = Checks.fairOf("S11H3" + hold + "0T0" + force + "0");
                int fell = x.toss(0, 3, 0);
                due("HOLD " + hold + ", FORCE " + force, fell, force >= hold ? 1 : 0);
                due("husk(0, 8)", x.husk(0, 8), fell);
                due("husk(0, 4)", x.husk(0, 4), force);
            }
        }
    }

    @Says({"4 more, if a NAIL is in", "It FALLS, when it is as LOOSE as it is FIRM, or more."})
    private static void promise10ANailedOneFallsBy4More() {
        for (int force = 1; force <= 9; force++) {
            CoconutShies x = Checks.fairOf("S11H321T0" + force + "0");
            due("HOLD 2, a NAIL, FORCE " + force, x.toss(0, 3, 0), force >= 6 ? 1 : 0);
        }
    }

    @Says("it is LOOSER by FORCE (NAVVY: 2 more), and was hit once more")
    private static void promise10ANavvyMakesItLooserBy2More() {
        for (int force = 1; force <= 9; force++) {
            CoconutShies x = Checks.fairOf("S11H391T0" + force + "3");
            due("of 13, FORCE " + force, x.toss(0, 3, 0), 0);
            due("husk(0, 4)", x.husk(0, 4), force + 2);
            due("husk(0, 5)", x.husk(0, 5), 1);
        }
        due("of 9, FORCE 6", Checks.fairOf("S11H390T063").toss(0, 3, 0), 0);
        due("of 9, FORCE 7", Checks.fairOf("S11H390T073").toss(0, 3, 0), 1);
    }

    @Says("(SPLIT, if it was not HALVED: it is HALVED, stands, and is not LOOSE any more; that is no fall)")
    private static void promise10ASplitOneStandsByHalves() {
        CoconutShies x = Checks.fairOf("S19H043H190T010L010");
        int[] loose = {1, 2, 3, 0, 1};
        for (int hits = 1; hits <= 5; hits++) {
            due("toss(0, 0, 0)", x.toss(0, 0, 0), 0);
            due("husk(0, 4)", x.husk(0, 4), loose[hits - 1]);
            due("husk(0, 6)", x.husk(0, 6), hits < 4 ? 0 : 1);
            due("husk(0, 8)", x.husk(0, 8), 0);
            due("no law of what does not fall", x.about(5), 0);
        }
        due("the sixth", x.toss(0, 0, 0), 3);
        due("husk(0, 5)", x.husk(0, 5), 6);
    }

    @Says("less how often it was hit, if it is BALD (1 at least).")
    private static void promise10ABaldOneIsLessFirmByThisHit() {
        for (int hold = 1; hold <= 9; hold++) {
            CoconutShies x = Checks.fairOf("S11H3" + hold + "2T030");
            due("HOLD " + hold + ", FORCE 3", x.toss(0, 3, 0), hold <= 4 ? 1 : 0);
        }
        due("HOLD 1, FORCE 1", Checks.fairOf("S11H312T010").toss(0, 3, 0), 1);
        due("HOLD 2, FORCE 1", Checks.fairOf("S11H322T010").toss(0, 3, 0), 1);
        due("HOLD 3, FORCE 1", Checks.fairOf("S11H332T010").toss(0, 3, 0), 0);
    }

    /** Five husks; the first falls. What fell by it, and what is down behind it. */
    private static void law(String laws, int fell, int down) {
        CoconutShies x = Checks.fairOf("S19H010H191H293H392H490T091" + laws);
        due("toss(0, 0, 0), " + laws, x.toss(0, 0, 0), fell);
        due("about(5), " + laws, x.about(5), down);
    }

    @Says("LAWS are told in order (4 at most)")
    private static void promise10ByFourLawsAllFiveFall() {
        law("L010L120L230L340", 31, 31);
        law("L340L230L120L010", 31, 31);
        law("L010L020L030L040", 31, 31);
        law("", 1, 1);
    }

    @Says("when a HUSK falls, LAWS of it are gone through")
    private static void promise10LawsOfOthersAreNotGoneThrough() {
        law("L100L120L230L340", 1, 1);
        law("L101L410L020", 5, 5);
    }

    @Says("by each the other one falls (a SPLIT one, too, at once), if it stands")
    private static void promise10ASplitOneFallsByLawAtOnce() {
        CoconutShies x = Checks.fairOf("S19H010H193T091L010");
        due("toss(0, 0, 0)", x.toss(0, 0, 0), 3);
        due("husk(1, 6)", x.husk(1, 6), 0);
        due("husk(1, 5)", x.husk(1, 5), 0);
        due("set(1)", x.set(1), 9);
    }

    @Says("by each the other one falls (a SPLIT one, too, at once), if it stands")
    private static void promise10OneThatIsDownDoesNotFallByLaw() {
        CoconutShies x = Checks.fairOf("S19H010H110H290T091L010L120");
        x.toss(0, 1, 0);
        x.set(2);
        due("toss(0, 0, 0)", x.toss(0, 0, 0), 1);
        due("about(5)", x.about(5), 3);
    }

    @Says("and did not fall by this THROW")
    private static void promise10NoneFallsTwiceByOneThrow() {
        law("L010L011L010", 3, 1);
        law("L010L120L021L020", 7, 3);
        law("L010L101L100", 3, 2);
    }

    @Says("and did not fall by this THROW")
    private static void promise10ARingOfLawsHasAnEnd() {
        law("L010L100", 3, 3);
        law("L010L120L200", 7, 7);
        law("L010L120L230L300", 15, 15);
        law("L010L101L020", 7, 6);
        law("L010L101L010", 3, 2);
    }

    @Says("(and LAWS of that one are gone through ahead of the next LAW, and so on)")
    private static void promise10LawsOfOneThatFallsComeAheadOfTheNext() {
        law("L010L021L120", 7, 3);
        law("L021L010L120", 7, 7);
        law("L020L010L121", 7, 3);
        law("L010L020L121", 7, 7);
    }

    @Says("or is set up, if it is down.")
    private static void promise10OneThatStandsIsNotSetUp() {
        CoconutShies x = Checks.fairOf("S19H010H190T090T020L011");
        x.toss(1, 1, 0);
        due("toss(0, 0, 0)", x.toss(0, 0, 0), 1);
        due("husk(1, 4)", x.husk(1, 4), 2);
        due("about(5)", x.about(5), 1);
    }

    @Says("What is set up is not LOOSE.")
    private static void promise10WhatIsSetUpByLawIsNotLoose() {
        CoconutShies x = Checks.fairOf("S19H010H150T090T030L011");
        x.toss(1, 1, 0);
        x.toss(1, 1, 0);
        due("husk(1, 8)", x.husk(1, 8), 1);
        due("toss(0, 0, 0)", x.toss(0, 0, 0), 1);
        due("husk(1, 8) behind it", x.husk(1, 8), 0);
        due("husk(1, 4)", x.husk(1, 4), 0);
        due("husk(1, 5)", x.husk(1, 5), 2);
    }

    @Says("and did not fall by this THROW")
    private static void promise10OneThatFellByAnEarlierThrowFallsAgain() {
        CoconutShies x = Checks.fairOf("S19H010H110T090L011L010");
        due("toss(0, 1, 0)", x.toss(0, 1, 0), 2);
        due("toss(0, 0, 0)", x.toss(0, 0, 0), 3);
        due("about(5)", x.about(5), 3);
    }

    @Says("HUSKS that fell by it, as bits.")
    private static void promise10EachHuskHasItsBit() {
        CoconutShies x = Checks.fairOf("S19H710H610H510H410H310T091");
        for (int husk = 0; husk < 5; husk++) {
            due("toss(0, " + (7 - husk) + ", 0)", x.toss(0, 7 - husk, 0), 1 << husk);
        }
        due("about(5)", x.about(5), 31);
    }

    // ---- 11 set

    @Says("UNKNOWN")
    private static void promise11AHuskThatThereIsNotIsUnknown() {
        CHECKS.leavesBusyAlone("set(-1)", x -> x.set(-1), UNKNOWN);
        CHECKS.leavesBusyAlone("set(4)", x -> x.set(4), UNKNOWN);
        CHECKS.leavesBusyAlone("set(LEAST)", x -> x.set(LEAST), UNKNOWN);
        CHECKS.leavesBusyAlone("set(MOST)", x -> x.set(MOST), UNKNOWN);
        due("set(0) of none", new CoconutShies().set(0), UNKNOWN);
    }

    @Says("LATE: it stands")
    private static void promise11OneThatStandsIsLate() {
        CHECKS.leavesBusyAlone("set(1)", x -> x.set(1), LATE);
        CHECKS.leavesBusyAlone("set(2), a LOOSE one", x -> x.set(2), LATE);
        CHECKS.leavesBusyAlone("set(3), a HALVED one", x -> x.set(3), LATE);
        CoconutShies x = Checks.busy();
        due("set(0)", x.set(0), 3);
        due("set(0) again", x.set(0), LATE);
    }

    @Says("SET: a HUSK that is down stands (not LOOSE).")
    private static void promise11WhatIsSetUpIsNotLoose() {
        CoconutShies x = Checks.fairOf("S19H050T030");
        x.toss(0, 0, 0);
        x.toss(0, 0, 0);
        due("husk(0, 4), down", x.husk(0, 4), 6);
        due("set(0)", x.set(0), 5);
        due("husk(0, 4)", x.husk(0, 4), 0);
        due("husk(0, 8)", x.husk(0, 8), 0);
        due("one hit is too few again", x.toss(0, 0, 0), 0);
        due("two are enough", x.toss(0, 0, 0), 1);
    }

    @Says("SET: how FIRM it is.")
    private static void promise11AsFirmAsItsKindIs() {
        CoconutShies x = Checks.fairOf("S19H010H191H212H393T091L010");
        x.toss(0, 0, 0);
        due("set(1), a NAILED one", x.set(1), 13);
        due("set(0)", x.set(0), 1);
        x.toss(0, 2, 0);
        due("set(2), a BALD one", x.set(2), 1);
        x.toss(0, 3, 0);
        x.toss(0, 3, 0);
        due("set(3), a HALVED one", x.set(3), 4);
    }

    @Says("SET: a HUSK that is down stands (not LOOSE).")
    private static void promise11ItNeedsNotBePaidFor() {
        CoconutShies x = broke();
        due("set(1)", x.set(1), 9);
        due("about(4)", x.about(4), 0);
        due("about(6)", x.about(6), 3);
    }

    // ---- 12 nail

    @Says("UNKNOWN")
    private static void promise12AHuskThatThereIsNotIsUnknown() {
        CHECKS.leavesBusyAlone("nail(-1)", x -> x.nail(-1), UNKNOWN);
        CHECKS.leavesBusyAlone("nail(4)", x -> x.nail(4), UNKNOWN);
        CHECKS.leavesBusyAlone("nail(LEAST)", x -> x.nail(LEAST), UNKNOWN);
        CHECKS.leavesBusyAlone("nail(MOST)", x -> x.nail(MOST), UNKNOWN);
        due("nail(0) of none", new CoconutShies().nail(0), UNKNOWN);
    }

    @Says("LATE: it is down")
    private static void promise12OneThatIsDownIsLate() {
        CHECKS.leavesBusyAlone("nail(0)", x -> x.nail(0), LATE);
        CHECKS.leavesAlone("nail(1), down by law", BoundsActsTest::broke, x -> x.nail(1), LATE);
        CoconutShies x = Checks.fairOf("S11H011T090");
        x.toss(0, 0, 0);
        due("nail(0), a NAILED one", x.nail(0), LATE);
        x.set(0);
        due("nail(0) when it is set up", x.nail(0), 1);
    }

    @Says("NAIL: one is in, or drawn.")
    private static void promise12InAndDrawnByTurns() {
        CoconutShies x = Checks.fairOf("S10H090H191");
        for (int i = 0; i < 3; i++) {
            due("nail(0), in", x.nail(0), 13);
            due("husk(0, 7)", x.husk(0, 7), 1);
            due("nail(0), drawn", x.nail(0), 9);
            due("husk(0, 7)", x.husk(0, 7), 0);
            due("nail(1), drawn", x.nail(1), 9);
            due("nail(1), in", x.nail(1), 13);
        }
    }

    @Says("NAIL: how FIRM it is then.")
    private static void promise12AsFirmAsItsKindIs() {
        CoconutShies x = Checks.fairOf("S19H012H113H293T091");
        x.toss(0, 0, 0);
        x.set(0);
        due("nail(0), a BALD one hit once", x.nail(0), 4);
        due("nail(0), drawn, 1 at least", x.nail(0), 1);
        x.toss(0, 1, 0);
        due("nail(1), half of 5", x.nail(1), 2);
        due("nail(1), drawn, half of 1", x.nail(1), 1);
        x.toss(0, 2, 0);
        due("nail(2), half of 13", x.nail(2), 6);
    }

    @Says("NAIL: one is in, or drawn.")
    private static void promise12WhenItIsDrawnNoneFallsTillItIsHit() {
        CoconutShies x = Checks.fairOf("S19H050H190T060T010L010");
        x.nail(0);
        due("toss(0, 0, 0)", x.toss(0, 0, 0), 0);
        due("nail(0), drawn, LOOSE by 6 of 5", x.nail(0), 5);
        due("husk(0, 8)", x.husk(0, 8), 0);
        due("set(0)", x.set(0), LATE);
        due("toss(1, 0, 0)", x.toss(1, 0, 0), 3);
    }

    @Says("NAIL: one is in, or drawn.")
    private static void promise12ItNeedsNotBePaidFor() {
        CoconutShies x = Checks.fairOf("S10H010");
        due("nail(0)", x.nail(0), 5);
        due("about(4)", x.about(4), 0);
        due("about(6)", x.about(6), 1);
    }

    // ---- 13 pay

    @Says("LATE: there are 9")
    private static void promise13NineAreLate() {
        CHECKS.leavesAlone("pay()", BoundsActsTest::busyWith9, CoconutShies::pay, LATE);
        due("pay() of 9 at first", Checks.fairOf("S19").pay(), LATE);
    }

    private static CoconutShies busyWith9() {
        CoconutShies x = Checks.busy();
        x.pay();
        x.pay();
        return x;
    }

    @Says("PAID: 3 THROWS more (9 at most).")
    private static void promise13Of6AndMoreThereAre9() {
        int[] due = {3, 4, 5, 6, 7, 8, 9, 9, 9};
        for (int paid = 0; paid <= 8; paid++) {
            CoconutShies x = Checks.fairOf("S1" + paid);
            due("pay() of " + paid, x.pay(), due[paid]);
            due("about(4)", x.about(4), due[paid]);
            due("about(6)", x.about(6), 1);
        }
    }

    @Says("PAID: THROWS that are paid for.")
    private static void promise13WithNobodyThreeAreMore() {
        CoconutShies x = new CoconutShies();
        due("pay()", x.pay(), 3);
        due("pay() again", x.pay(), 6);
        due("pay() a third time", x.pay(), 9);
        due("pay() a fourth time", x.pay(), LATE);
        due("about(6)", x.about(6), 3);
    }

    @Says("PAID: 3 THROWS more")
    private static void promise13OneIsThrownAndOneMoreIsPaidFor() {
        CoconutShies x = Checks.fairOf("S19H090T010");
        x.toss(0, 1, 0);
        due("pay() of 8", x.pay(), 9);
        due("pay() of 9", x.pay(), LATE);
    }

    // ---- 14 blow

    @Says("BAD: wind (0 .. 2)")
    private static void promise14AWindOutside0To2IsBad() {
        CHECKS.leavesBusyAlone("blow(-1)", x -> x.blow(-1), BAD);
        CHECKS.leavesBusyAlone("blow(3)", x -> x.blow(3), BAD);
        CHECKS.leavesBusyAlone("blow(LEAST)", x -> x.blow(LEAST), BAD);
        CHECKS.leavesBusyAlone("blow(MOST)", x -> x.blow(MOST), BAD);
    }

    @Says("LATE: it is that")
    private static void promise14TheSameWindIsLate() {
        CHECKS.leavesBusyAlone("blow(2)", x -> x.blow(2), LATE);
        for (int wind = 0; wind <= 2; wind++) {
            CoconutShies x = Checks.fairOf("S" + wind + "0");
            due("blow(" + wind + ")", x.blow(wind), LATE);
            due("about(6)", x.about(6), 0);
        }
    }

    @Says({"BLOWN: the WIND it was.", "BLOWN: it is another WIND."})
    private static void promise14FromEachWindToEachOther() {
        for (int was = 0; was <= 2; was++) {
            for (int more = 1; more <= 2; more++) {
                CoconutShies x = Checks.fairOf("S" + was + "0T011T010");
                int wind = (was + more) % 3;
                due("blow(" + wind + ") of " + was, x.blow(wind), was);
                due("about(3)", x.about(3), wind);
                due("about(6)", x.about(6), 1);
                due("lands(0, 3, 0), a curate", x.lands(0, 3, 0), 3);
                due("lands(1, 3, 0)", x.lands(1, 3, 0), 2 + wind);
            }
        }
    }

    // ---- 15 undo

    @Says("LATE: there is none")
    private static void promise15WithNoActItIsLate() {
        due("undo() of a new one", new CoconutShies().undo(), LATE);
        CHECKS.leavesAlone("undo()", () -> Checks.fairOf(Checks.BUSY), CoconutShies::undo, LATE);
        CHECKS.leavesAlone("undo() behind again(0)", BoundsActsTest::goneOnFrom, CoconutShies::undo, LATE);
    }

    private static CoconutShies goneOnFrom() {
        CoconutShies x = Checks.busy();
        x.again(0);
        return x;
    }

    @Says("LATE: there is none")
    private static void promise15WhenAllAreUndoneItIsLate() {
        CoconutShies x = Checks.busy();
        String atFirst = Checks.stateOf(Checks.fairOf(Checks.BUSY));
        for (int left = 6; left >= 0; left--) {
            due("undo()", x.undo(), left);
        }
        due("undo() of none", x.undo(), LATE);
        x.unsee();
        CHECKS.sameState("all undone", x, atFirst);
    }

    /** The i-th act, 1 .. 31, by which each time another set of the five husks has nails. */
    private static void nailTheNext(CoconutShies x, int i) {
        x.nail(Integer.numberOfTrailingZeros(i));
    }

    private static int nailsBehind(int acts) {
        return acts ^ acts >> 1;
    }

    private static int nailsOf(CoconutShies x) {
        int bits = 0;
        for (int husk = 0; husk < 5; husk++) {
            bits |= x.husk(husk, 7) << husk;
        }
        return bits;
    }

    /** So many acts are done, all that are left are undone; the first of them are forgotten. */
    private static void undoneOf(int acts, int forgotten) {
        CoconutShies x = Checks.fairOf("S10H010H110H210H310H410");
        for (int i = 1; i <= acts; i++) {
            nailTheNext(x, i);
        }
        due("about(6) behind " + acts, x.about(6), acts - forgotten);
        for (int behind = acts - 1; behind >= forgotten; behind--) {
            due("undo()", x.undo(), behind - forgotten);
            due("nails behind " + behind, nailsOf(x), nailsBehind(behind));
        }
        due("undo() of none", x.undo(), LATE);
        due("nails", nailsOf(x), nailsBehind(forgotten));
    }

    @Says("are a row (14 at most; when it is full, the first one is forgotten)")
    private static void promise15FourteenAreUndone() {
        undoneOf(1, 0);
        undoneOf(13, 0);
        undoneOf(14, 0);
    }

    @Says("are a row (14 at most; when it is full, the first one is forgotten)")
    private static void promise15OfFifteenTheFirstIsForgotten() {
        undoneOf(15, 1);
        undoneOf(16, 2);
    }

    @Says("are a row (14 at most; when it is full, the first one is forgotten)")
    private static void promise15TheRowGoesRoundTwice() {
        undoneOf(27, 13);
        undoneOf(28, 14);
        undoneOf(29, 15);
        undoneOf(31, 17);
    }

    @Says({"when it is full, the first one is forgotten", "the last one can be undone."})
    private static void promise15ActsAndUndoingByTurnsAtAFullRow() {
        CoconutShies x = Checks.fairOf("S10H010H110H210H310H410");
        Deque<Integer> before = new ArrayDeque<>();
        for (int i = 1; i <= 60; i++) {
            if (i > 20 && i % 3 == 0) {
                int was = before.removeLast();
                due("undo() at " + i, x.undo(), before.size());
                due("nails at " + i, nailsOf(x), was);
            } else {
                before.addLast(nailsOf(x));
                x.nail(i % 5);
                if (before.size() > 14) {
                    before.removeFirst();
                }
            }
        }
        due("about(6)", x.about(6), before.size());
    }

    @Says("The last ACT is undone: how many are left.")
    private static void promise15EachKindOfActIsUndone() {
        undone("THROWN, off", x -> x.toss(0, 7, 1), 0);
        undone("THROWN, it falls", x -> x.toss(1, 3, 0), 8);
        undone("THROWN, it falls and is BALD", x -> x.toss(1, 2, 0), 4);
        undone("SET", x -> x.set(0), 3);
        undone("NAIL, in", x -> x.nail(3), 5);
        undone("NAIL, drawn", x -> x.nail(1), 5);
        undone("PAID", CoconutShies::pay, 8);
        undone("BLOWN", x -> x.blow(0), 2);
    }

    private static void undone(String what, ToLongFunction<CoconutShies> act, long want) {
        CoconutShies x = Checks.busy();
        due(what, act.applyAsLong(x), want);
        due("about(6)", x.about(6), 8);
        due("undo() of " + what, x.undo(), 7);
        CHECKS.sameState(what + " is undone", x, Checks.stateOf(Checks.busy()));
    }

    @Says("PAID: 3 THROWS more (9 at most).")
    private static void promise15WhatWasPaidAbove9IsNotTakenBack() {
        CoconutShies x = Checks.fairOf("S18");
        due("pay()", x.pay(), 9);
        due("undo()", x.undo(), 0);
        due("about(4)", x.about(4), 8);
    }

    @Says("What is refused changes nothing.")
    private static void promise15WhatIsRefusedIsNoAct() {
        CoconutShies x = broke();
        x.toss(0, 0, 0);
        x.toss(1, 0, 0);
        x.toss(0, 8, 0);
        x.set(2);
        x.nail(0);
        x.blow(1);
        x.blow(3);
        due("about(6)", x.about(6), 2);
        due("undo()", x.undo(), 1);
        due("about(5)", x.about(5), 0);
    }

    @Says("ACTS (THROWN, SET, NAIL, PAID, BLOWN)")
    private static void promise15WhatElseIsDoneIsNoAct() {
        CoconutShies x = Checks.busy();
        x.see(0, 5, 1);
        x.seed(4);
        x.fairs(30);
        x.keep(0);
        x.write(83);
        due("about(6)", x.about(6), 7);
        due("undo()", x.undo(), 6);
        due("SEEN stays", x.about(7), 3);
        due("THE TEXT stays", x.about(8), 36);
        x.unsee();
        x.wipe();
        due("about(6)", x.about(6), 6);
        due("undo()", x.undo(), 5);
        due("SEEN", x.about(7), 0);
    }
}

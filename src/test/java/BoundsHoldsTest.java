/** Promises 23 to 25: each sentence that names a boundary case, in a test of its own. */
public final class BoundsHoldsTest {
    private static final int UNKNOWN = -1, BAD = -2, FULL = -4;
    private static final int LEAST = Integer.MIN_VALUE, MOST = Integer.MAX_VALUE;
    private static final int ANY = 1022;
    private static final Checks CHECKS = new Checks();

    public static void main(String[] args) {
        Sentences.runAll(BoundsHoldsTest.class, CHECKS);
    }

    private static void due(String call, long got, long want) {
        CHECKS.due(call, got, want);
    }

    /** Six are seen. */
    private static CoconutShies full() {
        CoconutShies x = Checks.busy();
        for (int force = 1; force <= 4; force++) {
            x.see(2, force, 0);
        }
        return x;
    }

    // ---- 23 see

    @Says("UNKNOWN")
    private static void promise23AHuskThatThereIsNotIsUnknown() {
        CHECKS.leavesBusyAlone("see(-1, 1, 1)", x -> x.see(-1, 1, 1), UNKNOWN);
        CHECKS.leavesBusyAlone("see(4, 1, 1)", x -> x.see(4, 1, 1), UNKNOWN);
        CHECKS.leavesBusyAlone("see(LEAST, 1, 1)", x -> x.see(LEAST, 1, 1), UNKNOWN);
        CHECKS.leavesBusyAlone("see(MOST, 1, 1)", x -> x.see(MOST, 1, 1), UNKNOWN);
        due("see(0, 1, 1) of none", new CoconutShies().see(0, 1, 1), UNKNOWN);
    }

    @Says("BAD: force (1 .. 11), fell (0, 1)")
    private static void promise23AForceOutside1To11IsBad() {
        CHECKS.leavesBusyAlone("see(0, 0, 1)", x -> x.see(0, 0, 1), BAD);
        CHECKS.leavesBusyAlone("see(0, 12, 1)", x -> x.see(0, 12, 1), BAD);
        CHECKS.leavesBusyAlone("see(0, -1, 0)", x -> x.see(0, -1, 0), BAD);
        CHECKS.leavesBusyAlone("see(0, LEAST, 1)", x -> x.see(0, LEAST, 1), BAD);
        CHECKS.leavesBusyAlone("see(0, MOST, 0)", x -> x.see(0, MOST, 0), BAD);
    }

    @Says("BAD: force (1 .. 11), fell (0, 1)")
    private static void promise23FellButFor0And1IsBad() {
        CHECKS.leavesBusyAlone("see(0, 1, -1)", x -> x.see(0, 1, -1), BAD);
        CHECKS.leavesBusyAlone("see(0, 1, 2)", x -> x.see(0, 1, 2), BAD);
        CHECKS.leavesBusyAlone("see(0, 1, LEAST)", x -> x.see(0, 1, LEAST), BAD);
        CHECKS.leavesBusyAlone("see(0, 1, MOST)", x -> x.see(0, 1, MOST), BAD);
    }

    @Says("FULL: 6")
    private static void promise23ASeventhIsRefused() {
        CHECKS.leavesAlone("see(0, 9, 1)", BoundsHoldsTest::full, x -> x.see(0, 9, 1), FULL);
        CHECKS.leavesAlone("see(2, 4, 0), seen already", BoundsHoldsTest::full, x -> x.see(2, 4, 0), FULL);
    }

    @Says({"SEEN: how many there are.", "6 such at most, none at first"})
    private static void promise23SixAreSeenTheSameTooAndAlsoWhatCanNotBe() {
        CoconutShies x = Checks.fairOf("S10H010H110");
        due("see(0, 1, 1)", x.see(0, 1, 1), 1);
        due("see(0, 1, 1) again", x.see(0, 1, 1), 2);
        due("see(0, 1, 0)", x.see(0, 1, 0), 3);
        due("see(1, 11, 0)", x.see(1, 11, 0), 4);
        due("see(1, 11, 1)", x.see(1, 11, 1), 5);
        due("see(1, 1, 1)", x.see(1, 1, 1), 6);
        due("see(1, 1, 1) again", x.see(1, 1, 1), FULL);
        due("about(7)", x.about(7), 6);
    }

    @Says("Of several what is told first.")
    private static void promise23UnknownIsToldAheadOfBadAndBadOfFull() {
        due("see(4, 0, 2)", full().see(4, 0, 2), UNKNOWN);
        due("see(-1, 1, 1)", full().see(-1, 1, 1), UNKNOWN);
        due("see(0, 12, 1)", full().see(0, 12, 1), BAD);
        due("see(0, 1, 2)", full().see(0, 1, 2), BAD);
    }

    @Says("FULL: 6")
    private static void promise23WhenNothingIsSeenThereIsRoomAgain() {
        CoconutShies x = full();
        due("unsee()", x.unsee(), 6);
        due("see(0, 1, 0)", x.see(0, 1, 0), 1);
    }

    @Says("SEEN: that a HUSK, not LOOSE, fell (1), or did not (0)")
    private static void promise23WhatIsSeenChangesNothingElse() {
        CoconutShies x = Checks.busy();
        due("see(3, 11, 1)", x.see(3, 11, 1), 3);
        due("husk(3, 8)", x.husk(3, 8), 0);
        due("husk(3, 4)", x.husk(3, 4), 0);
        due("husk(3, 5)", x.husk(3, 5), 1);
        due("about(4)", x.about(4), 5);
        due("about(6)", x.about(6), 7);
    }

    // ---- 24 unsee

    @Says("Nothing is SEEN: how much there was.")
    private static void promise24OfNothingItIs0() {
        due("unsee() of a new one", new CoconutShies().unsee(), 0);
        CHECKS.leavesAlone("unsee()", () -> Checks.fairOf(Checks.BUSY), CoconutShies::unsee, 0);
    }

    @Says("Nothing is SEEN: how much there was.")
    private static void promise24OfSixItIs6AndThenNone() {
        CoconutShies x = full();
        due("unsee()", x.unsee(), 6);
        due("unsee() again", x.unsee(), 0);
        due("about(7)", x.about(7), 0);
        for (int husk = 0; husk < 4; husk++) {
            due("holds(" + husk + ")", x.holds(husk), ANY);
        }
    }

    @Says("Nothing is SEEN: how much there was.")
    private static void promise24WhatWasSeenDoesNotComeBack() {
        CoconutShies x = Checks.fairOf("S10H010H110");
        x.see(0, 3, 1);
        x.see(1, 5, 1);
        x.unsee();
        x.see(1, 9, 1);
        due("holds(0)", x.holds(0), ANY);
        due("holds(1)", x.holds(1), ANY);
        due("about(7)", x.about(7), 1);
    }

    // ---- 25 holds

    @Says("UNKNOWN")
    private static void promise25AHuskThatThereIsNotIsUnknown() {
        CHECKS.leavesBusyAlone("holds(-1)", x -> x.holds(-1), UNKNOWN);
        CHECKS.leavesBusyAlone("holds(4)", x -> x.holds(4), UNKNOWN);
        CHECKS.leavesBusyAlone("holds(LEAST)", x -> x.holds(LEAST), UNKNOWN);
        CHECKS.leavesBusyAlone("holds(MOST)", x -> x.holds(MOST), UNKNOWN);
    }

    @Says("HOLDS of a HUSK: what its HOLD may be (bits 1 .. 9)")
    private static void promise25IfNothingIsSeenItIsAny() {
        CoconutShies x = Checks.fairOf("S10H010H191H292H393");
        for (int husk = 0; husk < 4; husk++) {
            due("holds(" + husk + ")", x.holds(husk), ANY);
        }
    }

    /** Bits of holds from .. to. */
    private static int bits(int from, int to) {
        int bits = 0;
        for (int hold = from; hold <= to; hold++) {
            bits |= 1 << hold;
        }
        return bits;
    }

    @Says({"by f (1 .. 11) of FORCE", "HOLDS of a HUSK: what its HOLD may be (bits 1 .. 9)"})
    private static void promise25ByEachForceWithoutANail() {
        for (int force = 1; force <= 11; force++) {
            CoconutShies x = Checks.fairOf("S10H010");
            x.see(0, force, 1);
            due("it fell by " + force, x.holds(0), bits(1, Math.min(9, force)));
            x.unsee();
            x.see(0, force, 0);
            due("it did not by " + force, x.holds(0), bits(force + 1, 9));
        }
    }

    @Says("it fell, if f is that, 4 more if a NAIL is in now, or more")
    private static void promise25ByEachForceWithANail() {
        for (int force = 1; force <= 11; force++) {
            CoconutShies x = Checks.fairOf("S10H011");
            x.see(0, force, 1);
            due("it fell by " + force, x.holds(0), bits(1, force - 4));
            x.unsee();
            x.see(0, force, 0);
            due("it did not by " + force, x.holds(0), bits(Math.max(1, force - 3), 9));
        }
    }

    @Says("4 more if a NAIL is in now")
    private static void promise25TheNailThatIsInNowCounts() {
        CoconutShies x = Checks.fairOf("S10H010");
        x.see(0, 5, 1);
        due("holds(0)", x.holds(0), bits(1, 5));
        x.nail(0);
        due("holds(0) with a nail", x.holds(0), bits(1, 1));
        x.undo();
        due("holds(0) without it", x.holds(0), bits(1, 5));
    }

    @Says("so that all that is SEEN of it is so")
    private static void promise25AllSixAreLookedAt() {
        CoconutShies x = Checks.fairOf("S10H010H110");
        x.see(0, 2, 0);
        x.see(1, 6, 1);
        x.see(0, 8, 1);
        x.see(0, 3, 0);
        x.see(0, 7, 1);
        due("holds(0), five seen", x.holds(0), bits(4, 7));
        x.see(0, 6, 0);
        due("holds(0), six seen", x.holds(0), bits(7, 7));
        due("holds(1)", x.holds(1), bits(1, 6));
    }

    @Says("so that all that is SEEN of it is so")
    private static void promise25WhatCanNotBeLeavesNoHold() {
        CoconutShies x = Checks.fairOf("S10H010");
        x.see(0, 4, 1);
        x.see(0, 4, 0);
        due("holds(0)", x.holds(0), 0);
        x.nail(0);
        due("holds(0) with a nail", x.holds(0), 0);
        CoconutShies y = Checks.fairOf("S10H010");
        y.see(0, 9, 0);
        due("more than 9", y.holds(0), 0);
        y.nail(0);
        due("more than 9 with a nail", y.holds(0), bits(6, 9));
    }

    @Says("(KINDS, HALVED ones, how often it was hit set aside)")
    private static void promise25KindsHalvesAndHitsAreSetAside() {
        CoconutShies x = Checks.fairOf("S19H092H193T091");
        x.toss(0, 0, 0);
        x.toss(0, 1, 0);
        due("husk(1, 6)", x.husk(1, 6), 1);
        x.see(0, 7, 1);
        x.see(1, 7, 1);
        due("holds(0), BALD, hit and down", x.holds(0), bits(1, 7));
        due("holds(1), HALVED", x.holds(1), bits(1, 7));
    }

    @Says("(of HUSKS that there are not any more nothing is looked at)")
    private static void promise25OfAHuskThatThereIsNotAnyMoreNothingIsLookedAt() {
        CoconutShies x = Checks.fairOf("S10H010H110");
        x.see(1, 2, 1);
        x.see(0, 8, 1);
        Checks.tell(x, "S10H310");
        x.fair();
        due("about(7)", x.about(7), 2);
        due("holds(1)", x.holds(1), UNKNOWN);
        due("holds(0)", x.holds(0), bits(1, 8));
        Checks.tell(x, "S10");
        x.fair();
        due("holds(0) of none", x.holds(0), UNKNOWN);
        due("see(0, 1, 1) of none", x.see(0, 1, 1), UNKNOWN);
        due("unsee()", x.unsee(), 2);
    }

    @Says("HOLDS, as bits.")
    private static void promise25NothingIsChanged() {
        CHECKS.leavesBusyAlone("holds(0)", x -> x.holds(0), bits(5, 9));
        CHECKS.leavesBusyAlone("holds(1)", x -> x.holds(1), bits(1, 5));
    }
}

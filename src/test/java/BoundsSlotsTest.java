/** Promises 30 and 31: each sentence that names a boundary case, in a test of its own. */
public final class BoundsSlotsTest {
    private static final int UNKNOWN = -1, LATE = -3;
    private static final int LEAST = Integer.MIN_VALUE, MOST = Integer.MAX_VALUE;
    private static final Checks CHECKS = new Checks();

    public static void main(String[] args) {
        Sentences.runAll(BoundsSlotsTest.class, CHECKS);
    }

    private static void due(String call, long got, long want) {
        CHECKS.due(call, got, want);
    }

    /** Something was done, and only slot 1 is kept. */
    private static CoconutShies keptInOne() {
        CoconutShies x = Checks.fairOf(Checks.BUSY);
        x.toss(1, 0, 0);
        x.keep(1);
        x.blow(1);
        x.set(1);
        return x;
    }

    // ---- 30 keep

    @Says({"UNKNOWN", "SLOTS 0 .. 1"})
    private static void promise30ASlotButFor0And1IsUnknown() {
        CHECKS.leavesBusyAlone("keep(-1)", x -> x.keep(-1), UNKNOWN);
        CHECKS.leavesBusyAlone("keep(2)", x -> x.keep(2), UNKNOWN);
        CHECKS.leavesBusyAlone("keep(LEAST)", x -> x.keep(LEAST), UNKNOWN);
        CHECKS.leavesBusyAlone("keep(MOST)", x -> x.keep(MOST), UNKNOWN);
    }

    @Says("They are kept: how many are down.")
    private static void promise30FromNoneToAllFiveAreDown() {
        CoconutShies x = Checks.fairOf("S19H010H110H210H310H410T091");
        for (int down = 0; down <= 5; down++) {
            due("keep(" + down % 2 + ")", x.keep(down % 2), down);
            x.toss(0, down, 0);
        }
    }

    @Says("They are kept: how many are down.")
    private static void promise30WithNoHuskNoneIsDown() {
        CoconutShies x = new CoconutShies();
        due("keep(0)", x.keep(0), 0);
        x.pay();
        x.blow(0);
        due("keep(1)", x.keep(1), 0);
        due("again(0)", x.again(0), 0);
        due("about(4)", x.about(4), 0);
        due("about(3)", x.about(3), 1);
        due("again(1)", x.again(1), 0);
        due("about(4)", x.about(4), 3);
        due("about(3)", x.about(3), 0);
    }

    @Says("They are kept")
    private static void promise30WhatWasKeptThereIsGone() {
        CoconutShies x = Checks.busy();
        due("keep(0)", x.keep(0), 1);
        due("again(1)", x.again(1), 2);
        due("again(0)", x.again(0), 1);
        due("about(4)", x.about(4), 5);
    }

    @Says("They are kept")
    private static void promise30NothingElseIsChanged() {
        CoconutShies x = Checks.busy();
        String before = Checks.stateOf(x);
        due("keep(1)", x.keep(1), 1);
        CHECKS.sameState("keep(1)", x, before);
        for (int left = 6; left >= 0; left--) {
            due("undo()", x.undo(), left);
        }
        due("seed(0)", x.seed(0), 77);
        due("again(0), the other slot", x.again(0), 2);
        due("about(4)", x.about(4), 3);
    }

    // ---- 31 again

    @Says({"UNKNOWN", "SLOTS 0 .. 1"})
    private static void promise31ASlotButFor0And1IsUnknown() {
        CHECKS.leavesBusyAlone("again(-1)", x -> x.again(-1), UNKNOWN);
        CHECKS.leavesBusyAlone("again(2)", x -> x.again(2), UNKNOWN);
        CHECKS.leavesBusyAlone("again(LEAST)", x -> x.again(LEAST), UNKNOWN);
        CHECKS.leavesBusyAlone("again(MOST)", x -> x.again(MOST), UNKNOWN);
        due("again(2) of a new one", new CoconutShies().again(2), UNKNOWN);
    }

    @Says("LATE: none were kept")
    private static void promise31WhereNoneWereKeptIsLate() {
        due("again(0) of a new one", new CoconutShies().again(0), LATE);
        due("again(1) of a new one", new CoconutShies().again(1), LATE);
        CHECKS.leavesAlone("again(0)", BoundsSlotsTest::keptInOne, x -> x.again(0), LATE);
        due("again(1)", keptInOne().again(1), 2);
    }

    @Says("LATE: none were kept")
    private static void promise31BehindAFairItIsLate() {
        CoconutShies x = Checks.busy();
        x.fair();
        due("again(0)", x.again(0), LATE);
        due("again(1)", x.again(1), LATE);
        due("keep(0)", x.keep(0), 0);
        due("again(1)", x.again(1), LATE);
        due("again(0)", x.again(0), 0);
    }

    @Says("keep what is down, LOOSE, hit, HALVED, NAILS, WIND, what is paid for")
    private static void promise31AllAreAsTheyWereKept() {
        CoconutShies x = Checks.busy();
        x.keep(0);
        String kept = Checks.stateOf(x).replaceFirst("^4 2 2 2 5 1 7 ", "4 2 2 2 5 1 0 ");
        x.set(0);
        x.toss(1, 2, 0);
        x.toss(1, 3, 0);
        x.toss(1, 1, 0);
        x.set(3);
        x.nail(3);
        x.blow(1);
        x.pay();
        due("about(5)", x.about(5), 6);
        due("again(0)", x.again(0), 1);
        CHECKS.sameState("again(0)", x, kept);
    }

    @Says("(no ACTS when one goes on)")
    private static void promise31NoActsAreLeft() {
        CoconutShies x = Checks.busy();
        due("again(1)", x.again(1), 2);
        due("about(6)", x.about(6), 0);
        due("undo()", x.undo(), LATE);
        due("pay()", x.pay(), 6);
        due("about(6)", x.about(6), 1);
        due("undo()", x.undo(), 0);
        due("about(4)", x.about(4), 3);
        due("undo()", x.undo(), LATE);
    }

    @Says("(no ACTS when one goes on)")
    private static void promise31OfAFullRowNoActsAreLeft() {
        CoconutShies x = Checks.fairOf("S10H010H110");
        x.keep(0);
        for (int i = 0; i < 20; i++) {
            x.nail(i % 2);
        }
        due("about(6)", x.about(6), 14);
        due("again(0)", x.again(0), 0);
        due("undo()", x.undo(), LATE);
        for (int i = 1; i <= 14; i++) {
            x.nail(0);
            due("about(6)", x.about(6), i);
        }
        for (int left = 13; left >= 0; left--) {
            due("undo()", x.undo(), left);
            due("husk(0, 7)", x.husk(0, 7), left % 2);
        }
    }

    @Says("They are as they were kept: how many are down.")
    private static void promise31OneGoesOnFromItMoreThanOnce() {
        CoconutShies x = keptInOne();
        for (int i = 0; i < 3; i++) {
            due("again(1)", x.again(1), 2);
            due("about(4)", x.about(4), 4);
            due("about(3)", x.about(3), 0);
            x.toss(1, 3, 0);
            x.set(0);
        }
    }

    @Says("They are as they were kept: how many are down.")
    private static void promise31SeenTheSeedAndTheTextStay() {
        CoconutShies x = Checks.busy();
        x.see(2, 3, 0);
        x.write(83);
        x.seed(5);
        due("again(0)", x.again(0), 2);
        due("about(7)", x.about(7), 3);
        due("about(8)", x.about(8), 36);
        due("seed(0)", x.seed(0), 5);
    }
}

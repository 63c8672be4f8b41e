/** Promises 30 and 31: what is kept, and gone on from. */
public final class SlotsTest {
    private static final int UNKNOWN = -1, LATE = -3;
    private static final Checks CHECKS = new Checks();

    public static void main(String[] args) {
        promise30Keep();
        promise31Again();
        promise31AgainIsApart();
        promise31AgainRefused();
        CHECKS.end("SlotsTest");
    }

    private static void due(String call, long got, long want) {
        CHECKS.due(call, got, want);
    }

    private static void promise30Keep() {
        CoconutShies x = Checks.fairOf("S19H010H110T090L010");
        due("30 keep(-1)", x.keep(-1), UNKNOWN);
        due("30 keep(2)", x.keep(2), UNKNOWN);
        due("30 keep(0)", x.keep(0), 0);
        x.toss(0, 0, 0);
        due("30 keep(1)", x.keep(1), 2);
        due("30 acts stay", x.about(6), 1);
        due("30 undo() still goes", x.undo(), 0);
        due("30 down", x.about(5), 0);
        due("30 kept anew", x.keep(1), 0);
        due("30 gone on from", x.again(1), 0);
    }

    private static void promise31Again() {
        CoconutShies x = Checks.fairOf("S15H013H192H251H390T040T090L030");
        x.toss(0, 0, 0);
        x.toss(0, 1, 0);
        x.nail(2);
        x.nail(3);
        x.toss(1, 0, 0);
        x.blow(2);
        due("31 down", x.about(5), 9);
        due("31 keep(0)", x.keep(0), 2);
        String kept = Checks.stateOf(x);
        x.set(0);
        x.set(3);
        x.toss(1, 0, 0);
        x.toss(1, 1, 0);
        x.nail(3);
        x.blow(0);
        x.pay();
        x.see(0, 3, 1);
        x.unsee();
        due("31 again(0)", x.again(0), 2);
        due("31 no acts", x.about(6), 0);
        due("31 undo()", x.undo(), LATE);
        CHECKS.sameState("31 as it was kept, but for acts", x, withoutActs(kept, 6));
        x.set(0);
        due("31 again(0) a second time", x.again(0), 2);
        CHECKS.sameState("31 as it was kept, but for acts", x, withoutActs(kept, 6));
    }

    /** The state's seventh number is how many acts there are. */
    private static String withoutActs(String state, int acts) {
        String[] parts = state.split(" ", 8);
        if (Integer.parseInt(parts[6]) != acts) {
            throw new IllegalArgumentException(state);
        }
        parts[6] = "0";
        return String.join(" ", parts);
    }

    private static void promise31AgainIsApart() {
        CoconutShies x = Checks.fairOf("S19H010H110T090");
        x.keep(0);
        x.toss(0, 0, 0);
        x.keep(1);
        x.seed(8);
        x.see(0, 1, 1);
        due("31 again(0)", x.again(0), 0);
        due("31 paid", x.about(4), 9);
        due("31 seen stays", x.about(7), 1);
        due("31 again(1)", x.again(1), 1);
        due("31 paid", x.about(4), 8);
        due("31 the seed stays", x.seed(0), 8);
        x.toss(0, 1, 0);
        due("31 what is kept is apart", x.again(1), 1);
    }

    private static void promise31AgainRefused() {
        CoconutShies x = new CoconutShies();
        due("31 again(-1)", x.again(-1), UNKNOWN);
        due("31 again(2)", x.again(2), UNKNOWN);
        due("31 again(0)", x.again(0), LATE);
        x.pay();
        due("31 keep(1) with no fair", x.keep(1), 0);
        due("31 again(0)", x.again(0), LATE);
        due("31 acts stay", x.about(6), 1);
        x.pay();
        due("31 again(1)", x.again(1), 0);
        due("31 paid", x.about(4), 3);
    }
}

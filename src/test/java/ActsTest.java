/** Promises 10 to 15: acts, and that they are undone. */
public final class ActsTest {
    private static final int UNKNOWN = -1, BAD = -2, LATE = -3;
    private static final Checks CHECKS = new Checks();

    public static void main(String[] args) {
        promise10Toss();
        promise10TossOfKinds();
        promise10TossRefused();
        promise10TossByLaw();
        promise10TossByLawAndSplit();
        promise11Set();
        promise12Nail();
        promise13Pay();
        promise14Blow();
        promise15Undo();
        promise15UndoOfMany();
        CHECKS.end("ActsTest");
    }

    private static void due(String call, long got, long want) {
        CHECKS.due(call, got, want);
    }

    private static void promise10Toss() {
        CoconutShies x = Checks.fairOf("S16H240H510T120T190");
        due("10 not firm enough to fall", x.toss(0, 2, 0), 0);
        due("10 loose", x.husk(0, 4), 2);
        due("10 as loose as firm", x.toss(0, 1, 1), 1);
        due("10 down", x.about(5), 1);
        due("10 nothing stands there", x.toss(1, 2, 0), 0);
        due("10 not hit when down", x.husk(0, 5), 2);
        due("10 under", x.toss(1, 6, 2), 2);
        due("10 off", x.toss(1, 7, 1), 0);
        due("10 an empty place", x.toss(1, 3, 0), 0);
        due("10 each is paid for", x.about(4), 0);
        due("10 each is an act", x.about(6), 6);
        due("10 not paid for", x.toss(1, 7, 1), LATE);
        due("10 no act", x.about(6), 6);
    }

    private static void promise10TossOfKinds() {
        CoconutShies x = Checks.fairOf("S26H361H052H413T011T252T193");
        due("10 a curate minds no wind", x.toss(0, 3, 0), 0);
        due("10 hit", x.husk(0, 5), 1);
        due("10 a navvy, 11 of 10", x.toss(2, 2, 0), 1);
        due("10 a left one over is under", x.toss(1, 1, 1), 2);
        due("10 a split one is halved", x.toss(1, 3, 0), 0);
        due("10 halved", x.husk(2, 6), 1);
        due("10 not loose", x.husk(2, 4), 0);
        due("10 stands", x.husk(2, 8), 0);
        due("10 then falls", x.toss(1, 3, 0), 4);
        due("10 hit twice", x.husk(2, 5), 2);
        CoconutShies y = Checks.fairOf("S19H092T030");
        due("10 3 of 8", y.toss(0, 0, 0), 0);
        due("10 6 of 7", y.toss(0, 0, 0), 0);
        due("10 9 of 6", y.toss(0, 0, 0), 1);
        CoconutShies z = Checks.fairOf("S19H042T030");
        due("10 3 of 3, the hit counted", z.toss(0, 0, 0), 1);
    }

    private static void promise10TossRefused() {
        CoconutShies x = Checks.fairOf("S10H010T010");
        String before = Checks.stateOf(x);
        due("10 toss(1, 9, 9)", x.toss(1, 9, 9), UNKNOWN);
        due("10 toss(-1, 0, 0)", x.toss(-1, 0, 0), UNKNOWN);
        due("10 toss(0, 8, 0)", x.toss(0, 8, 0), BAD);
        due("10 toss(0, -1, 0)", x.toss(0, -1, 0), BAD);
        due("10 toss(0, 0, 3)", x.toss(0, 0, 3), BAD);
        due("10 toss(0, 0, -1)", x.toss(0, 0, -1), BAD);
        due("10 toss(0, 0, 0)", x.toss(0, 0, 0), LATE);
        CHECKS.sameState("10 refused", x, before);
    }

    private static void law(String laws, int fell, int down) {
        CoconutShies x = Checks.fairOf("S19H010H190H290H390T090" + laws);
        due("10 fell by " + laws, x.toss(0, 0, 0), fell);
        due("10 down by " + laws, x.about(5), down);
        due("10 none but the first was hit", x.husk(1, 5) + x.husk(2, 5) + x.husk(3, 5), 0);
    }

    private static void promise10TossByLaw() {
        law("", 1, 1);
        law("L010", 3, 3);
        law("L100", 1, 1);
        law("L010L120L230", 15, 15);
        law("L230L120L010", 15, 15);
        law("L010L100", 3, 3);
        law("L010L101", 3, 2);
        law("L010L101L020", 7, 6);
        law("L011", 1, 1);
        // 1 falls, and 2 by it, ahead of the law by which 2 is set up.
        law("L010L120L021", 7, 3);
        law("L021L010L120", 7, 7);
        // What fell by this throw and was set up does not fall by it again.
        law("L010L011L010", 3, 1);
        law("L010L120L021L020", 7, 3);
        CoconutShies x = Checks.fairOf("S19H030H210H410T020T090L101L120L010");
        x.toss(0, 0, 0);
        due("10 one falls and the next by it", x.toss(1, 0, 0), 7);
        due("10 the first is up again", x.about(5), 6);
        due("10 what is set up is not loose", x.husk(0, 4), 0);
        due("10 how often it was hit stays", x.husk(0, 5), 2);
        x.set(2);
        due("10 no law of what is down already", x.toss(1, 0, 0), 1);
        due("10 down", x.about(5), 3);
    }

    private static void promise10TossByLawAndSplit() {
        CoconutShies x = Checks.fairOf("S19H010H193H513T090L010L200");
        due("10 a split one falls by law at once", x.toss(0, 0, 0), 3);
        due("10 not halved", x.husk(1, 6), 0);
        due("10 set up whole", x.set(1), 9);
        x.set(0);
        due("10 halved is no fall, no law", x.toss(0, 5, 0), 0);
        due("10 then it is one", x.toss(0, 5, 0), 7);
    }

    private static void promise11Set() {
        CoconutShies x = Checks.fairOf("S19H032H193T090");
        String before = Checks.stateOf(x);
        due("11 set(2)", x.set(2), UNKNOWN);
        due("11 set(-1)", x.set(-1), UNKNOWN);
        due("11 set(0) that stands", x.set(0), LATE);
        CHECKS.sameState("11 refused", x, before);
        x.toss(0, 0, 0);
        due("11 set(0)", x.set(0), 2);
        due("11 stands", x.husk(0, 8), 0);
        due("11 not loose", x.husk(0, 4), 0);
        due("11 was hit", x.husk(0, 5), 1);
        due("11 acts", x.about(6), 2);
        due("11 paid", x.about(4), 8);
        x.toss(0, 1, 0);
        x.toss(0, 1, 0);
        due("11 a halved one", x.set(1), 4);
        due("11 is halved still", x.husk(1, 6), 1);
    }

    private static void promise12Nail() {
        CoconutShies x = Checks.fairOf("S19H030H151T050");
        due("12 nail(2)", x.nail(2), UNKNOWN);
        due("12 nail(-1)", x.nail(-1), UNKNOWN);
        due("12 in", x.nail(0), 7);
        due("12 it is in", x.husk(0, 7), 1);
        due("12 acts", x.about(6), 1);
        due("12 stands by it", x.toss(0, 0, 0), 0);
        due("12 drawn", x.nail(1), 5);
        due("12 it is drawn", x.husk(1, 7), 0);
        due("12 falls", x.toss(0, 1, 0), 2);
        due("12 down", x.nail(1), LATE);
        due("12 acts", x.about(6), 4);
        due("12 paid", x.about(4), 7);
        due("12 falls with its nail", x.toss(0, 0, 0), 1);
        due("12 the nail stays in", x.husk(0, 7), 1);
        due("12 set up, firm by it", x.set(0), 7);
    }

    private static void promise13Pay() {
        CoconutShies x = Checks.fairOf("S15");
        due("13 pay()", x.pay(), 8);
        due("13 9 at most", x.pay(), 9);
        due("13 there are 9", x.pay(), LATE);
        due("13 acts", x.about(6), 2);
        due("13 paid", x.about(4), 9);
        due("13 undo()", x.undo(), 1);
        due("13 8 again", x.about(4), 8);
    }

    private static void promise14Blow() {
        CoconutShies x = Checks.fairOf("S10T010");
        due("14 blow(-1)", x.blow(-1), BAD);
        due("14 blow(3)", x.blow(3), BAD);
        due("14 blow(1)", x.blow(1), LATE);
        due("14 no act", x.about(6), 0);
        due("14 blow(2)", x.blow(2), 1);
        due("14 lands", x.lands(0, 3, 0), 4);
        due("14 blow(0)", x.blow(0), 2);
        due("14 lands", x.lands(0, 3, 0), 2);
        due("14 blow(0) again", x.blow(0), LATE);
        due("14 wind", x.about(3), 0);
        due("14 acts", x.about(6), 2);
    }

    private static void promise15Undo() {
        // A twin is asked on the way, as no object is promised to answer more than 512 calls.
        CoconutShies x = Checks.fairOf("S13H013H190H291T090L010L021");
        CoconutShies twin = Checks.fairOf("S13H013H190H291T090L010L021");
        String[] before = new String[8];
        for (int i = 0; i < 8; i++) {
            before[i] = Checks.stateOf(twin);
            act(twin, i);
            act(x, i);
        }
        for (int i = 7; i >= 0; i--) {
            due("15 undo()", x.undo(), i);
            CHECKS.sameState("15 act " + i + " undone", x, before[i]);
        }
        due("15 none", x.undo(), LATE);
    }

    private static void act(CoconutShies x, int i) {
        switch (i) {
            case 0: due("15 halved", x.toss(0, 0, 0), 0); break;
            case 1: due("15 nail", x.nail(2), 9); break;
            case 2: due("15 fell", x.toss(0, 0, 0), 3); break;
            case 3: due("15 set", x.set(1), 9); break;
            case 4: due("15 paid", x.pay(), 4); break;
            case 5: due("15 blown", x.blow(2), 1); break;
            case 6: due("15 off", x.toss(0, 7, 0), 0); break;
            default: due("15 fell", x.toss(0, 0, 0), 2); break;
        }
    }

    private static void promise15UndoOfMany() {
        CoconutShies x = Checks.fairOf("S19H090T010");
        for (int i = 1; i <= 9; i++) {
            x.toss(0, 7, 0);
        }
        for (int i = 10; i <= 17; i++) {
            due("15 nail", x.nail(0), i % 2 == 0 ? 13 : 9);
            due("15 14 at most", x.about(6), Math.min(14, i));
        }
        due("15 refused is no act", x.toss(0, 0, 0), LATE);
        due("15 refused is no act", x.set(0), LATE);
        for (int left = 13; left >= 0; left--) {
            due("15 undo()", x.undo(), left);
        }
        due("15 three are forgotten", x.about(4), 6);
        due("15 none is left", x.undo(), LATE);
        due("15 an act behind that", x.pay(), 9);
        due("15 undone", x.undo(), 0);
        due("15 paid", x.about(4), 6);
    }
}

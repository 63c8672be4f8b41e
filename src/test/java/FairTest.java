/** Promises 1 to 9: the text, its fault, the fair and what is told of it. */
public final class FairTest {
    private static final int UNKNOWN = -1, BAD = -2, LATE = -3, FULL = -4, NONE = -9;
    private static final Checks CHECKS = new Checks();

    public static void main(String[] args) {
        promise1ANewObject();
        promise2Write();
        promise3Wipe();
        promise4Fault();
        promise5Fair();
        promise5FairMadeAnew();
        promise6About();
        promise7Husk();
        promise7Firm();
        promise8Thrower();
        promise9Lands();
        constants();
        CHECKS.end("FairTest");
    }

    private static void due(String call, long got, long want) {
        CHECKS.due(call, got, want);
    }

    private static void promise1ANewObject() {
        CoconutShies x = new CoconutShies();
        for (int what = 0; what <= 8; what++) {
            due("1 about(" + what + ")", x.about(what), what == 3 ? 1 : 0);
        }
        due("1 husk(0, 0)", x.husk(0, 0), UNKNOWN);
        due("1 thrower(0, 0)", x.thrower(0, 0), UNKNOWN);
        due("1 undo()", x.undo(), LATE);
        due("1 again(0)", x.again(0), LATE);
        due("1 again(1)", x.again(1), LATE);
        due("1 seed(3)", x.seed(3), 0);
        due("1 match(true)", x.match(true), 1);
    }

    private static void promise2Write() {
        CoconutShies x = new CoconutShies();
        due("2 write(-1)", x.write(-1), BAD);
        due("2 write(256)", x.write(256), BAD);
        due("2 write(MIN)", x.write(Integer.MIN_VALUE), BAD);
        due("2 write(MAX)", x.write(Integer.MAX_VALUE), BAD);
        due("2 about(8)", x.about(8), 0);
        due("2 write(0)", x.write(0), 1);
        due("2 write(255)", x.write(255), 2);
        for (int length = 3; length <= 60; length++) {
            due("2 write(72)", x.write(72), length);
        }
        due("2 write(72) of 60", x.write(72), FULL);
        due("2 write(256) of 60", x.write(256), BAD);
        due("2 about(8) of 60", x.about(8), 60);
    }

    private static void promise3Wipe() {
        CoconutShies x = Checks.fairOf("S19H010T010");
        due("3 wipe()", x.wipe(), 11);
        due("3 wipe() of none", x.wipe(), 0);
        due("3 about(8)", x.about(8), 0);
        due("3 fault()", x.fault(), 0);
        due("3 the fair stays", x.about(0), 1);
        due("3 write(83)", x.write(83), 1);
    }

    private static void fault(String text, int want) {
        CoconutShies x = new CoconutShies();
        Checks.tell(x, text);
        due("4 fault() of " + text, x.fault(), want);
        due("4 fault() of " + text + " twice", x.fault(), want);
        due("4 about(0) behind fault()", x.about(0), 0);
    }

    private static void promise4Fault() {
        fault("", 0);
        fault("X", 0);
        fault("s10", 0);
        fault("S", 1);
        fault("S3", 1);
        fault("S/", 1);
        fault("S2", 2);
        fault("S1:", 2);
        fault("S1/", 2);
        fault("S1AX", 2);
        fault("S00", NONE);
        fault("S10", NONE);
        fault("S29", NONE);
        fault("S10X", 3);
        fault("S10h010", 3);
        fault("S10S", 3);
        promise4FaultOfHusks();
        promise4FaultOfThrowers();
        promise4FaultOfLaws();
    }

    private static void promise4FaultOfHusks() {
        fault("S10H", 4);
        fault("S10H8", 4);
        fault("S10H/", 4);
        fault("S10H7", 5);
        fault("S10H00", 5);
        fault("S10H0:", 5);
        fault("S10H01", 6);
        fault("S10H014", 6);
        fault("S10H01" + (char) 176, 6);
        fault("S10H010", NONE);
        fault("S10H793", NONE);
        fault("S10H010H0", 8);
        fault("S10H010T110H110H0", 16);
        fault("S10H010H210H410H610H710", NONE);
        fault("S10H010H210H410H610H710H", 23);
        fault("S10H010H210H410H610H710T", 24);
    }

    private static void promise4FaultOfThrowers() {
        fault("S10T", 4);
        fault("S10T4", 4);
        fault("S10T3", 5);
        fault("S10T00", 5);
        fault("S10T0:", 5);
        fault("S10T/", 4);
        fault("S10T01", 6);
        fault("S10T014", 6);
        fault("S10T010", NONE);
        fault("S10T393", NONE);
        fault("S10T010T010T010T010", NONE);
        fault("S10T010T010T010T010T", 19);
    }

    private static void promise4FaultOfLaws() {
        fault("S10L", 3);
        fault("S10H010L", 7);
        String two = "S10H010H110";
        fault(two + "L", 12);
        fault(two + "L2", 12);
        fault(two + "L0", 13);
        fault(two + "L00", 13);
        fault(two + "L02", 13);
        fault(two + "L020H210", 13);
        fault(two + "L01", 14);
        fault(two + "L012", 14);
        fault(two + "L010", NONE);
        fault(two + "L101", NONE);
        fault(two + "H210L020", NONE);
        fault(two + "L010L010L010L010", NONE);
        fault(two + "L010L010L010L010L", 27);
        String most = "S29H093H193H293H393H493T393T393T393T393L010L120L230L341";
        fault(most, NONE);
        fault(most + "H5193", 55);
    }

    private static void promise5Fair() {
        CoconutShies x = new CoconutShies();
        due("5 fair() of none", x.fair(), LATE);
        Checks.tell(x, "S29H093H193H293H393H493T393T393T393T393L010L120L230L341");
        due("5 fair()", x.fair(), 544);
        due("5 the text stays", x.about(8), 55);
        Checks.tell(x, "S10H");
        String before = Checks.stateOf(x);
        due("5 fair() not at its end", x.fair(), LATE);
        CHECKS.sameState("5 fair() refused", x, before);
        Checks.tell(x, "S00");
        due("5 fair() of no part", x.fair(), 0);
        due("5 wind", x.about(3), 0);
        Checks.tell(x, "S10H010T010");
        due("5 fair()", x.fair(), 110);
        Checks.tell(x, "S10T010T010");
        due("5 fair()", x.fair(), 20);
        due("5 no husk any more", x.husk(0, 0), UNKNOWN);
    }

    private static void promise5FairMadeAnew() {
        CoconutShies x = Checks.fairOf("S25H013H151H310T090L020");
        x.keep(0);
        x.keep(1);
        x.see(1, 4, 1);
        x.seed(77);
        x.blow(1);
        x.toss(0, 0, 0);
        x.toss(0, 1, 0);
        x.toss(0, 3, 0);
        x.nail(0);
        due("5 down ahead", x.about(5), 6);
        due("5 fair()", x.fair(), 311);
        due("5 wind", x.about(3), 2);
        due("5 paid", x.about(4), 5);
        due("5 down", x.about(5), 0);
        due("5 acts", x.about(6), 0);
        due("5 undo()", x.undo(), LATE);
        due("5 seen", x.about(7), 1);
        due("5 seed", x.seed(0), 77);
        due("5 again(0)", x.again(0), LATE);
        due("5 again(1)", x.again(1), LATE);
        for (int husk = 0; husk < 3; husk++) {
            due("5 loose", x.husk(husk, 4), 0);
            due("5 hit", x.husk(husk, 5), 0);
            due("5 halved", x.husk(husk, 6), 0);
            due("5 nail", x.husk(husk, 7), husk == 1 ? 1 : 0);
        }
    }

    private static void promise6About() {
        CoconutShies x = Checks.fairOf("S26H090H110H210T090T010T010L121");
        x.toss(0, 1, 0);
        x.toss(0, 0, 0);
        x.see(0, 1, 1);
        due("6 about(0)", x.about(0), 3);
        due("6 about(1)", x.about(1), 3);
        due("6 about(2)", x.about(2), 1);
        due("6 about(3)", x.about(3), 2);
        due("6 about(4)", x.about(4), 4);
        due("6 about(5)", x.about(5), 2);
        due("6 about(6)", x.about(6), 2);
        due("6 about(7)", x.about(7), 1);
        due("6 about(8)", x.about(8), 31);
        due("6 about(-1)", x.about(-1), BAD);
        due("6 about(9)", x.about(9), BAD);
        due("6 about(MIN)", x.about(Integer.MIN_VALUE), BAD);
    }

    private static void promise7Husk() {
        CoconutShies x = Checks.fairOf("S19H390H741H052H683T330");
        int[] place = {3, 7, 0, 6};
        int[] hold = {9, 4, 5, 8};
        for (int husk = 0; husk < 4; husk++) {
            due("7 place", x.husk(husk, 0), place[husk]);
            due("7 hold", x.husk(husk, 1), hold[husk]);
            due("7 kind", x.husk(husk, 2), husk);
            due("7 firm", x.husk(husk, 3), hold[husk] + (husk == 1 ? 4 : 0));
            due("7 nail", x.husk(husk, 7), husk == 1 ? 1 : 0);
            due("7 down", x.husk(husk, 8), 0);
        }
        x.toss(0, 3, 0);
        due("7 loose", x.husk(0, 4), 3);
        due("7 hit", x.husk(0, 5), 1);
        due("7 halved", x.husk(0, 6), 0);
        x.toss(0, 3, 0);
        x.toss(0, 3, 0);
        due("7 down", x.husk(0, 8), 1);
        due("7 hit", x.husk(0, 5), 3);
        due("7 husk(4, 0)", x.husk(4, 0), UNKNOWN);
        due("7 husk(-1, 0)", x.husk(-1, 0), UNKNOWN);
        due("7 husk(0, -1)", x.husk(0, -1), BAD);
        due("7 husk(0, 9)", x.husk(0, 9), BAD);
        due("7 husk(5, 9)", x.husk(5, 9), UNKNOWN);
    }

    private static void promise7Firm() {
        CoconutShies x = Checks.fairOf("S19H032H193H210H613T010T090");
        x.toss(0, 0, 0);
        due("7 a bald one hit once", x.husk(0, 3), 2);
        x.nail(0);
        due("7 with a nail", x.husk(0, 3), 6);
        x.nail(0);
        x.toss(0, 0, 0);
        due("7 a bald one falls sooner", x.husk(0, 8), 1);
        x.set(0);
        x.toss(1, 0, 0);
        x.set(0);
        due("7 a bald one is firm by 1 at least", x.husk(0, 3), 1);
        x.toss(1, 1, 0);
        due("7 halved", x.husk(1, 6), 1);
        due("7 half of 9", x.husk(1, 3), 4);
        x.nail(1);
        due("7 half of 13", x.husk(1, 3), 6);
        x.toss(0, 2, 0);
        due("7 a plain one that was hit", x.husk(2, 3), 1);
        x.toss(0, 6, 0);
        due("7 half of 1 is 1 at least", x.husk(3, 3), 1);
    }

    private static void promise8Thrower() {
        CoconutShies x = Checks.fairOf("S10T010T191T252T393");
        int[] force = {1, 9, 5, 9};
        for (int thrower = 0; thrower < 4; thrower++) {
            due("8 aim", x.thrower(thrower, 0), thrower);
            due("8 force", x.thrower(thrower, 1), force[thrower]);
            due("8 kind", x.thrower(thrower, 2), thrower);
            due("8 looser", x.thrower(thrower, 3), force[thrower] + (thrower == 3 ? 2 : 0));
        }
        due("8 thrower(4, 0)", x.thrower(4, 0), UNKNOWN);
        due("8 thrower(-1, 0)", x.thrower(-1, 0), UNKNOWN);
        due("8 thrower(0, 4)", x.thrower(0, 4), BAD);
        due("8 thrower(0, -1)", x.thrower(0, -1), BAD);
        due("8 thrower(4, 4)", x.thrower(4, 4), UNKNOWN);
    }

    private static void lands(String text, int place, int straight, int over, int under) {
        CoconutShies x = Checks.fairOf(text);
        due("9 straight, " + text, x.lands(0, place, 0), straight);
        due("9 over, " + text, x.lands(0, place, 1), over);
        due("9 under, " + text, x.lands(0, place, 2), under);
        due("9 not paid for", x.about(4), 0);
    }

    private static void promise9Lands() {
        lands("S10T210", 3, 3, 5, 1);
        lands("S00T210", 3, 2, 4, 0);
        lands("S20T210", 3, 4, 6, 2);
        lands("S20T211", 3, 3, 5, 1);
        lands("S10T212", 3, 3, 1, 5);
        lands("S20T212", 3, 4, 2, 6);
        lands("S10T213", 3, 3, 6, 0);
        lands("S10T013", 3, 3, 4, 2);
        lands("S10T010", 3, 3, 3, 3);
        lands("S10T310", 0, 0, 3, 8);
        lands("S10T310", 7, 7, 8, 4);
        lands("S00T110", 7, 6, 7, 5);
        lands("S00T110", 0, 8, 0, 8);
        lands("S20T110", 7, 8, 8, 7);
        CoconutShies x = Checks.fairOf("S10T210");
        due("9 lands(1, 0, 0)", x.lands(1, 0, 0), UNKNOWN);
        due("9 lands(-1, 0, 0)", x.lands(-1, 0, 0), UNKNOWN);
        due("9 lands(1, 9, 9)", x.lands(1, 9, 9), UNKNOWN);
        due("9 lands(0, -1, 0)", x.lands(0, -1, 0), BAD);
        due("9 lands(0, 8, 0)", x.lands(0, 8, 0), BAD);
        due("9 lands(0, 0, -1)", x.lands(0, 0, -1), BAD);
        due("9 lands(0, 0, 3)", x.lands(0, 0, 3), BAD);
    }

    private static void constants() {
        due("UNKNOWN", CoconutShies.UNKNOWN, UNKNOWN);
        due("BAD", CoconutShies.BAD, BAD);
        due("LATE", CoconutShies.LATE, LATE);
        due("FULL", CoconutShies.FULL, FULL);
        due("NONE", CoconutShies.NONE, NONE);
    }
}

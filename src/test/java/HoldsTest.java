/** Promises 23 to 25: what was seen, and the holds that it leaves. */
public final class HoldsTest {
    private static final int UNKNOWN = -1, BAD = -2, FULL = -4;
    private static final int ANY = 1022;
    private static final Checks CHECKS = new Checks();

    public static void main(String[] args) {
        promise23See();
        promise23SeeRefused();
        promise24Unsee();
        promise25Holds();
        promise25HoldsByNails();
        promise25HoldsBehindAnotherFair();
        CHECKS.end("HoldsTest");
    }

    private static void due(String call, long got, long want) {
        CHECKS.due(call, got, want);
    }

    private static void promise23See() {
        CoconutShies x = Checks.fairOf("S10H010H110");
        due("23 see", x.see(0, 1, 0), 1);
        due("23 see", x.see(1, 11, 1), 2);
        due("23 the same again", x.see(1, 11, 1), 3);
        due("23 see", x.see(0, 11, 0), 4);
        due("23 see", x.see(0, 1, 1), 5);
        due("23 see", x.see(0, 5, 1), 6);
        due("23 6 at most", x.see(0, 5, 1), FULL);
        due("23 about(7)", x.about(7), 6);
        due("23 no act", x.about(6), 0);
        due("23 bad is told first", x.see(0, 12, 1), BAD);
        due("23 unknown is told first", x.see(2, 5, 1), UNKNOWN);
    }

    private static void promise23SeeRefused() {
        CoconutShies x = Checks.fairOf("S10H010");
        due("23 see(1, 0, 2)", x.see(1, 0, 2), UNKNOWN);
        due("23 see(-1, 1, 1)", x.see(-1, 1, 1), UNKNOWN);
        due("23 see(0, 0, 1)", x.see(0, 0, 1), BAD);
        due("23 see(0, 12, 1)", x.see(0, 12, 1), BAD);
        due("23 see(0, 1, 2)", x.see(0, 1, 2), BAD);
        due("23 see(0, 1, -1)", x.see(0, 1, -1), BAD);
        due("23 about(7)", x.about(7), 0);
        due("23 holds(0)", x.holds(0), ANY);
    }

    private static void promise24Unsee() {
        CoconutShies x = Checks.fairOf("S10H010");
        due("24 none", x.unsee(), 0);
        x.see(0, 5, 1);
        x.see(0, 4, 0);
        due("24 holds ahead", x.holds(0), 32);
        due("24 unsee()", x.unsee(), 2);
        due("24 about(7)", x.about(7), 0);
        due("24 holds behind", x.holds(0), ANY);
        due("24 see", x.see(0, 3, 1), 1);
        due("24 holds", x.holds(0), 14);
    }

    private static void promise25Holds() {
        CoconutShies x = Checks.fairOf("S10H010H210");
        due("25 nothing seen", x.holds(0), ANY);
        x.see(0, 7, 1);
        due("25 it fell by 7", x.holds(0), 254);
        x.see(0, 3, 0);
        due("25 it did not by 3", x.holds(0), 240);
        due("25 of the other one", x.holds(1), ANY);
        x.see(0, 11, 1);
        due("25 it fell by 11", x.holds(0), 240);
        x.see(0, 2, 1);
        due("25 it can not be", x.holds(0), 0);
        due("25 holds(2)", x.holds(2), UNKNOWN);
        due("25 holds(-1)", x.holds(-1), UNKNOWN);
    }

    private static void promise25HoldsByNails() {
        CoconutShies x = Checks.fairOf("S19H013H191H352T090");
        x.see(0, 9, 0);
        due("25 more than 9", x.holds(0), 0);
        x.nail(0);
        due("25 more than 5 with a nail", x.holds(0), 960);
        x.toss(0, 0, 0);
        due("25 halved is set aside", x.holds(0), 960);
        x.see(1, 4, 1);
        due("25 a nailed one", x.holds(1), 0);
        x.unsee();
        x.see(1, 6, 1);
        due("25 a nailed one", x.holds(1), 6);
        x.toss(0, 3, 0);
        x.see(2, 5, 1);
        due("25 bald ones, hits, and that it is down are set aside", x.holds(2), 62);
    }

    private static void promise25HoldsBehindAnotherFair() {
        CoconutShies x = Checks.fairOf("S10H010H210");
        x.see(1, 2, 1);
        x.see(0, 4, 1);
        Checks.tell(x, "S10H310");
        x.fair();
        due("25 it is kept", x.about(7), 2);
        due("25 no such one any more", x.holds(1), UNKNOWN);
        due("25 the same number", x.holds(0), 30);
        Checks.tell(x, "S10H310H610");
        x.fair();
        due("25 there is such a one again", x.holds(1), 6);
    }
}

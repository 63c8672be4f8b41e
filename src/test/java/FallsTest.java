/** Promises 16 to 22: what falls, and what may be done about it. */
public final class FallsTest {
    private static final int UNKNOWN = -1, BAD = -2, NONE = -9;
    private static final Checks CHECKS = new Checks();

    public static void main(String[] args) {
        promise16Felled();
        promise17Fewest();
        promise17FewestByLaw();
        promise18Winds();
        promise19Match();
        promise20Nails();
        promise21Judge();
        promise21JudgeThrows();
        promise21JudgeRefused();
        promise22Share();
        nothingChanges();
        CHECKS.end("FallsTest");
    }

    private static void due(String call, long got, long want) {
        CHECKS.due(call, got, want);
    }

    private static void promise16Felled() {
        CoconutShies x = Checks.fairOf("S11H010H290H410H613T190T020L020");
        due("16 felled(0, 0, 0)", x.felled(0, 0, 0), 5);
        due("16 again, as nothing changes", x.felled(0, 0, 0), 5);
        due("16 over", x.felled(0, 1, 1), 2);
        due("16 under", x.felled(0, 1, 2), 5);
        due("16 not firm enough", x.felled(1, 2, 0), 0);
        due("16 halved is up", x.felled(0, 6, 0), 0);
        due("16 off", x.felled(0, 7, 1), 0);
        x.toss(0, 4, 0);
        due("16 what was down is told", x.felled(0, 2, 0), 6);
        due("16 not paid for", x.about(4), 0);
        due("16 by a law down already", x.felled(0, 0, 0), 5);
        due("16 felled(2, 9, 9)", x.felled(2, 9, 9), UNKNOWN);
        due("16 felled(-1, 0, 0)", x.felled(-1, 0, 0), UNKNOWN);
        due("16 felled(0, 8, 0)", x.felled(0, 8, 0), BAD);
        due("16 felled(0, -1, 0)", x.felled(0, -1, 0), BAD);
        due("16 felled(0, 0, 3)", x.felled(0, 0, 3), BAD);
        due("16 felled(0, 0, -1)", x.felled(0, 0, -1), BAD);
    }

    private static void fewest(String text, int husk, int many, int row) {
        CoconutShies x = Checks.fairOf(text);
        due("17 how many, " + text, x.fewest(husk, false), many);
        due("17 the row, " + text, x.fewest(husk, true), row);
    }

    private static void promise17Fewest() {
        fewest("S10H050T050", 0, 1, 11);
        fewest("S10H050T010T090", 0, 1, 21);
        fewest("S10H050T020T030", 0, 2, 1121);
        fewest("S10H090T020T030", 0, 3, 212121);
        fewest("S10H080T020T030", 0, 3, 112121);
        fewest("S10H010H190T020T010", 1, NONE, NONE);
        fewest("S10H010H270T030T010", 1, 3, 121212);
        fewest("S10H051T030", 0, 3, 111111);
        fewest("S10H091T040", 0, NONE, NONE);
        fewest("S10H091T043", 0, 3, 111111);
        fewest("S10H063T050", 0, 3, 111111);
        fewest("S10H013T050", 0, 2, 1111);
        fewest("S10H062T030", 0, 2, 1111);
        fewest("S20H010T090", 0, NONE, NONE);
        fewest("S20H010T091", 0, 1, 11);
        fewest("S20H010", 0, NONE, NONE);
        CoconutShies x = Checks.fairOf("S19H010H110T090");
        x.toss(0, 1, 0);
        due("17 it is down", x.fewest(1, false), 0);
        due("17 it is down", x.fewest(1, true), 0);
        due("17 fewest(2, true)", x.fewest(2, true), UNKNOWN);
        due("17 fewest(-1, false)", x.fewest(-1, false), UNKNOWN);
    }

    private static void promise17FewestByLaw() {
        fewest("S10H090H510T010L100", 0, 1, 12);
        fewest("S10H090H510H620T010L100L211", 0, 1, 12);
        CoconutShies x = Checks.fairOf("S19H090H110H210T040L211L100");
        x.toss(0, 1, 0);
        x.set(0);
        due("17 by one that is set up by law first", x.fewest(0, false), 2);
        due("17 its row", x.fewest(0, true), 1312);
        CoconutShies y = Checks.fairOf("S19H010H110T090L011L101");
        y.toss(0, 0, 0);
        due("17 one that falls by the first of them", y.fewest(1, true), 12);
    }

    private static void promise18Winds() {
        CoconutShies x = Checks.fairOf("S19H010H710H310T330T331T392T393");
        int[][] want = {{3, 6, 7}, {7, 7, 7}, {3, 6, 7}, {3, 6, 7}};
        for (int thrower = 0; thrower < 4; thrower++) {
            for (int husk = 0; husk < 3; husk++) {
                due("18 winds(" + thrower + ", " + husk + ")", x.winds(thrower, husk),
                        want[thrower][husk]);
            }
        }
        x.blow(2);
        due("18 whatever the wind is", x.winds(0, 0), 3);
        x.blow(1);
        x.toss(0, 0, 0);
        due("18 down", x.winds(0, 0), 0);
        due("18 down, by a curate", x.winds(1, 0), 0);
        due("18 winds(4, 0)", x.winds(4, 0), UNKNOWN);
        due("18 winds(-1, 0)", x.winds(-1, 0), UNKNOWN);
        due("18 winds(0, 3)", x.winds(0, 3), UNKNOWN);
        due("18 winds(0, -1)", x.winds(0, -1), UNKNOWN);
    }

    private static void match(String text, int many, int row) {
        CoconutShies x = Checks.fairOf(text);
        due("19 how many, " + text, x.match(false), many);
        due("19 the row, " + text, x.match(true), row);
    }

    private static void promise19Match() {
        match("S10", 0, 1);
        match("S10H010", 0, 1);
        match("S10T090T090", 0, 100);
        match("S10H010T090", 1, 11);
        match("S10H010T090T090", 1, 101);
        match("S10H010H110T090T090", 2, 112);
        match("S10H090T050T050", 1, 111);
        match("S10H090T040T040", 0, 100);
        match("S10H010H190T010T090T090T090", 2, 10012);
        match("S10H090H190H290H390H490T090T090T090T090", 4, 11234);
        match("S20H010T090", 0, 10);
        match("S20H010T091", 1, 11);
        // Each throws once, by number: the second sets the first one's husk up again.
        match("S10H010H110T090T010L101", 2, 121);
        match("S10H010H190T010T090L101", 1, 101);
        CoconutShies x = Checks.fairOf("S19H010H110T090");
        x.toss(0, 0, 0);
        due("19 what was down counts", x.match(false), 2);
        due("19 the other one", x.match(true), 12);
        x.toss(0, 1, 0);
        due("19 all are down", x.match(false), 2);
        due("19 nobody throws", x.match(true), 10);
        CoconutShies y = Checks.fairOf("S10H010T090");
        due("19 needs not be paid for", y.match(true), 11);
    }

    private static void promise20Nails() {
        String text = "S19H030H530T050L100";
        CoconutShies x = Checks.fairOf(text);
        due("20 its own, and that of which it falls by law", x.nails(0), 3);
        due("20 its own", x.nails(1), 2);
        x.nail(0);
        due("20 one has one", x.nails(0), 2);
        x.nail(0);
        x.toss(0, 5, 0);
        due("20 down", x.nails(0), NONE);
        due("20 down", x.nails(1), NONE);
        x.set(0);
        due("20 such as stand", x.nails(0), 1);
        due("20 nails(2)", x.nails(2), UNKNOWN);
        due("20 nails(-1)", x.nails(-1), UNKNOWN);
        due("20 by none", Checks.fairOf("S19H030T090").nails(0), NONE);
        due("20 one of 13", Checks.fairOf("S19H090T090").nails(0), 1);
        due("20 firm enough", Checks.fairOf("S19H090T080").nails(0), 0);
        due("20 only the second thrower fells it", Checks.fairOf("S19H030T010T040").nails(0), 1);
        due("20 nobody", Checks.fairOf("S19H010").nails(0), 0);
        due("20 out of reach", Checks.fairOf("S29H010T090").nails(0), 0);
        due("20 a split one", Checks.fairOf("S19H013T090").nails(0), 0);
        due("20 set up by law", Checks.fairOf("S19H010H190T090L010L011").nails(1), 2);
        due("20 falls and is set up", Checks.fairOf("S19H010H151T090T010L010L011").nails(1), NONE);
        due("20 falls and is set up", Checks.fairOf("S19H010H151T080L010L011").nails(1), 0);
        CoconutShies y = Checks.fairOf("S19H090T050");
        y.toss(0, 0, 0);
        due("20 a loose one", y.nails(0), 1);
        CoconutShies z = Checks.fairOf("S19H010H190H390T060L010L200");
        z.toss(0, 3, 0);
        due("20 it falls by law of one that no nail holds", z.nails(1), NONE);
        due("20 a nail holds it just", z.nails(2), 4);
    }

    private static void promise21Judge() {
        CoconutShies x = Checks.fairOf("S11H010H190T090T090L010");
        due("21 SET of one that stands", x.judge(1, 0), 0);
        due("21 thrown", x.judge(1, 10), NONE);
        due("21 it is down then", x.judge(2, 1010), 1);
        due("21 set up, but not paid for", x.judge(3, 100010), 2);
        due("21 set up, paid", x.judge(4, 10006010), NONE);
        due("21 set up, paid, by the other one", x.judge(4, 10006020), NONE);
        due("21 by nobody", x.judge(4, 10006030), 3);
        due("21 NAIL", x.judge(1, 51), NONE);
        due("21 NAIL twice", x.judge(2, 5151), NONE);
        due("21 NAIL of what is down", x.judge(2, 1051), 1);
        due("21 NAIL of what there is not", x.judge(1, 52), 0);
        due("21 PAID", x.judge(3, 606060), NONE);
        due("21 PAID, 9 at most", x.judge(4, 60606060), 3);
        due("21 PAID and no 0", x.judge(1, 61), 0);
        due("21 7", x.judge(1, 70), 0);
        due("21 8", x.judge(2, 6080), 1);
        due("21 9", x.judge(1, 99), 0);
        due("21 SET of what there is not", x.judge(1, 2), 0);
        due("21 at what there is not", x.judge(1, 15), 0);
        due("21 0 ahead", x.judge(2, 10), 0);
        x.toss(0, 0, 0);
        due("21 0 ahead, SET", x.judge(2, 60), NONE);
        due("21 nothing changes", x.judge(4, 1000050), 2);
        due("21 nothing changes", x.about(5), 3);
    }

    private static void promise21JudgeThrows() {
        due("21 out of reach", Checks.fairOf("S29H010T090").judge(1, 10), 0);
        due("21 a curate", Checks.fairOf("S29H010T091").judge(1, 10), NONE);
        due("21 not paid for", Checks.fairOf("S10H010T091").judge(1, 10), 0);
        due("21 paid for first", Checks.fairOf("S10H010T091").judge(2, 6010), NONE);
        CoconutShies x = Checks.fairOf("S19H090T050T050T050T053");
        due("21 it stands for one", x.judge(3, 104010), 2);
        due("21 a nail holds", x.judge(4, 50102030), NONE);
        due("21 a nail is drawn", x.judge(4, 50501020), NONE);
        due("21 and then it falls", x.judge(4, 50104010), NONE);
        due("21 and then it falls", x.judge(4, 10405000), 2);
        due("21 SET behind a fall", x.judge(3, 102000), NONE);
    }

    private static void promise21JudgeRefused() {
        CoconutShies x = new CoconutShies();
        due("21 judge(0, 0)", x.judge(0, 0), BAD);
        due("21 judge(5, 0)", x.judge(5, 0), BAD);
        due("21 judge(-1, 0)", x.judge(-1, 0), BAD);
        due("21 judge(MAX, 0)", x.judge(Integer.MAX_VALUE, 0), BAD);
        due("21 judge(1, -1)", x.judge(1, -1), BAD);
        due("21 judge(1, 100)", x.judge(1, 100), BAD);
        due("21 judge(2, 10000)", x.judge(2, 10000), BAD);
        due("21 judge(3, 1000000)", x.judge(3, 1000000), BAD);
        due("21 judge(4, 100000000)", x.judge(4, 100000000), BAD);
        due("21 judge(4, 99999999)", x.judge(4, 99999999), 0);
        due("21 judge(4, MAX)", x.judge(4, Integer.MAX_VALUE), BAD);
        due("21 judge(4, MIN)", x.judge(4, Integer.MIN_VALUE), BAD);
    }

    private static void share(CoconutShies x, int thrower, int above, int below) {
        due("22 above of " + thrower, x.share(thrower, true), above);
        due("22 below of " + thrower, x.share(thrower, false), below);
    }

    private static void promise22Share() {
        CoconutShies one = Checks.fairOf("S10H010H110T090L010");
        share(one, 0, 2, 1);
        due("22 share(1, true)", one.share(1, true), UNKNOWN);
        due("22 share(-1, false)", one.share(-1, false), UNKNOWN);
        CoconutShies two = Checks.fairOf("S10H090T050T050");
        share(two, 0, 1, 2);
        share(two, 1, 1, 2);
        CoconutShies three = Checks.fairOf("S10H090T050T050T090");
        share(three, 0, 1, 6);
        share(three, 1, 1, 6);
        share(three, 2, 2, 3);
        CoconutShies four = Checks.fairOf("S10H090T050T050T090T010");
        share(four, 0, 1, 6);
        share(four, 2, 2, 3);
        share(four, 3, 0, 1);
        CoconutShies none = Checks.fairOf("S10T090");
        share(none, 0, 0, 1);
        // All four are needed, 3 + 3 + 2 + 1 of 9.
        CoconutShies all = Checks.fairOf("S10H090T030T030T020T010");
        share(all, 3, 1, 4);
        CoconutShies down = Checks.fairOf("S13H010H110T090T090");
        down.toss(0, 0, 0);
        share(down, 0, 1, 2);
        down.toss(0, 1, 0);
        share(down, 0, 0, 1);
    }

    private static void nothingChanges() {
        CoconutShies x = Checks.fairOf("S19H033H241H450H612T140T253T322L010L121");
        x.toss(0, 0, 0);
        x.toss(1, 2, 0);
        x.nail(2);
        x.see(1, 3, 1);
        String before = Checks.stateOf(x);
        for (int husk = 0; husk < 4; husk++) {
            x.fewest(husk, true);
            x.fewest(husk, false);
            x.nails(husk);
            x.winds(0, husk);
            x.holds(husk);
            x.odds(1, husk, 4, husk, 5, true);
        }
        for (int place = 0; place < 8; place++) {
            x.felled(1, place, 0);
            x.lands(2, place, 1);
        }
        x.match(true);
        x.match(false);
        x.share(0, true);
        x.judge(4, 10522060);
        x.rests(0);
        x.rests(1);
        x.fairs(30);
        x.keep(0);
        CHECKS.sameState("2 nothing is changed", x, before);
    }
}

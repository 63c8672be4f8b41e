/** Promises 16 to 22: each sentence that names a boundary case, in a test of its own. */
public final class BoundsFallsTest {
    private static final int UNKNOWN = -1, BAD = -2, NONE = -9;
    private static final int LEAST = Integer.MIN_VALUE, MOST = Integer.MAX_VALUE;
    private static final String NOTHING = "In what follows nothing is changed, no THROW is paid for";
    private static final Checks CHECKS = new Checks();

    public static void main(String[] args) {
        Sentences.runAll(BoundsFallsTest.class, CHECKS);
    }

    private static void due(String call, long got, long want) {
        CHECKS.due(call, got, want);
    }

    // ---- 16 felled

    @Says("UNKNOWN")
    private static void promise16AThrowerThatThereIsNotIsUnknown() {
        CHECKS.leavesBusyAlone("felled(-1, 0, 0)", x -> x.felled(-1, 0, 0), UNKNOWN);
        CHECKS.leavesBusyAlone("felled(2, 0, 0)", x -> x.felled(2, 0, 0), UNKNOWN);
        CHECKS.leavesBusyAlone("felled(LEAST, 0, 0)", x -> x.felled(LEAST, 0, 0), UNKNOWN);
        CHECKS.leavesBusyAlone("felled(MOST, 0, 0)", x -> x.felled(MOST, 0, 0), UNKNOWN);
    }

    @Says("BAD: place, luck")
    private static void promise16APlaceOutside0To7IsBad() {
        CHECKS.leavesBusyAlone("felled(0, -1, 0)", x -> x.felled(0, -1, 0), BAD);
        CHECKS.leavesBusyAlone("felled(0, 8, 0)", x -> x.felled(0, 8, 0), BAD);
        CHECKS.leavesBusyAlone("felled(0, LEAST, 0)", x -> x.felled(0, LEAST, 0), BAD);
        CHECKS.leavesBusyAlone("felled(0, MOST, 0)", x -> x.felled(0, MOST, 0), BAD);
    }

    @Says("BAD: place, luck")
    private static void promise16LuckOutside0To2IsBad() {
        CHECKS.leavesBusyAlone("felled(0, 0, -1)", x -> x.felled(0, 0, -1), BAD);
        CHECKS.leavesBusyAlone("felled(0, 0, 3)", x -> x.felled(0, 0, 3), BAD);
        CHECKS.leavesBusyAlone("felled(0, 0, LEAST)", x -> x.felled(0, 0, LEAST), BAD);
        CHECKS.leavesBusyAlone("felled(0, 0, MOST)", x -> x.felled(0, 0, MOST), BAD);
    }

    @Says("Of several what is told first.")
    private static void promise16UnknownIsToldAheadOfBad() {
        due("felled(2, 8, 0)", Checks.busy().felled(2, 8, 0), UNKNOWN);
        due("felled(-1, 0, 3)", Checks.busy().felled(-1, 0, 3), UNKNOWN);
    }

    @Says({"FELLED: what is down (bits) behind a THROW.", NOTHING})
    private static void promise16WhatWasDownIsToldToo() {
        CHECKS.leavesBusyAlone("felled(1, 1, 0)", x -> x.felled(1, 1, 0), 3);
        CHECKS.leavesBusyAlone("felled(1, 0, 0), at one that is down", x -> x.felled(1, 0, 0), 1);
        CHECKS.leavesBusyAlone("felled(1, 7, 1), off", x -> x.felled(1, 7, 1), 1);
        CHECKS.leavesBusyAlone("felled(1, 0, 2), off", x -> x.felled(1, 0, 2), 1);
    }

    @Says("FELLED: what is down (bits) behind a THROW.")
    private static void promise16WhatIsSetUpByLawIsNotTold() {
        CoconutShies x = Checks.fairOf("S12H010H110T091L011L101");
        due("felled(0, 0, 0)", x.felled(0, 0, 0), 1);
        x.toss(0, 0, 0);
        due("felled(0, 1, 0)", x.felled(0, 1, 0), 2);
    }

    @Says("FELLED: what is down (bits) behind a THROW.")
    private static void promise16AllFiveOrNone() {
        CoconutShies x = Checks.fairOf("S10H010H191H293H390H490T080L010L120L230L340");
        due("felled(0, 0, 0)", x.felled(0, 0, 0), 31);
        due("felled(0, 4, 0)", x.felled(0, 4, 0), 0);
        due("felled(0, 7, 0)", x.felled(0, 7, 0), 0);
    }

    @Says(NOTHING)
    private static void promise16ItNeedsNotBePaidFor() {
        CoconutShies x = Checks.fairOf("S10H010T090");
        due("felled(0, 0, 0)", x.felled(0, 0, 0), 1);
        due("felled(0, 0, 0) again", x.felled(0, 0, 0), 1);
        due("about(4)", x.about(4), 0);
        due("about(5)", x.about(5), 0);
    }

    // ---- 17 fewest

    private static void fewest(String text, int husk, int many, int row) {
        CoconutShies x = Checks.fairOf(text);
        due("fewest(" + husk + ", false) of " + text, x.fewest(husk, false), many);
        due("fewest(" + husk + ", true) of " + text, x.fewest(husk, true), row);
    }

    @Says("UNKNOWN")
    private static void promise17AHuskThatThereIsNotIsUnknown() {
        CHECKS.leavesBusyAlone("fewest(-1, false)", x -> x.fewest(-1, false), UNKNOWN);
        CHECKS.leavesBusyAlone("fewest(4, true)", x -> x.fewest(4, true), UNKNOWN);
        CHECKS.leavesBusyAlone("fewest(LEAST, true)", x -> x.fewest(LEAST, true), UNKNOWN);
        CHECKS.leavesBusyAlone("fewest(MOST, false)", x -> x.fewest(MOST, false), UNKNOWN);
    }

    @Says("0, 0: it is down")
    private static void promise17OfOneThatIsDownItIs0() {
        CHECKS.leavesBusyAlone("fewest(0, false)", x -> x.fewest(0, false), 0);
        CHECKS.leavesBusyAlone("fewest(0, true)", x -> x.fewest(0, true), 0);
    }

    @Says("the fewest THROWS (1 .. 3) AT HUSKS that stand then, behind which it is down")
    private static void promise17From1To3AreTold() {
        fewest("S10H090T090", 0, 1, 11);
        fewest("S10H090T080", 0, 2, 1111);
        fewest("S10H090T050", 0, 2, 1111);
        fewest("S10H090T040", 0, 3, 111111);
        fewest("S10H090T030", 0, 3, 111111);
    }

    @Says({"the fewest THROWS (1 .. 3)", "NONE"})
    private static void promise17FourAreTooMany() {
        fewest("S10H090T020", 0, NONE, NONE);
        fewest("S10H080T020", 0, NONE, NONE);
        fewest("S10H070T020", 0, NONE, NONE);
        fewest("S10H060T020", 0, 3, 111111);
        fewest("S10H093T040", 0, NONE, NONE);
    }

    @Says({"NONE", "0, 0: it is down; NONE."})
    private static void promise17WithNobodyThereIsNone() {
        fewest("S19H010", 0, NONE, NONE);
    }

    @Says({"NONE", "(if there is such a one)"})
    private static void promise17OutOfReachThereIsNone() {
        fewest("S29H010T090", 0, NONE, NONE);
        fewest("S09H710T090", 0, NONE, NONE);
        fewest("S29H710T090", 0, 1, 11);
        fewest("S09H010T090", 0, 1, 11);
        fewest("S29H010T091", 0, 1, 11);
    }

    @Says("(two figures each, THROWER and HUSK, 1 more each; the least as a number)")
    private static void promise17TheLastThrowerAtTheLastHusk() {
        fewest("S10H090H190H290H390H490T010T010T010T030", 4, 3, 454545);
        fewest("S10H090H190H290H390H490T020T020T020T090", 4, 1, 45);
    }

    @Says("(two figures each, THROWER and HUSK, 1 more each; the least as a number)")
    private static void promise17OfLikeRowsTheLeastIsTold() {
        fewest("S10H010T090T090T090T090", 0, 1, 11);
        fewest("S10H010H110T090L100", 0, 1, 11);
        fewest("S10H050H110T010T090L100", 0, 1, 12);
        fewest("S10H050T020T030", 0, 2, 1121);
        fewest("S10H050T030T020", 0, 2, 1111);
        fewest("S10H080T030T020", 0, 3, 111111);
        fewest("S10H080T020T030", 0, 3, 112121);
    }

    @Says("AT HUSKS that stand then")
    private static void promise17OneThatIsDownIsNotThrownAt() {
        CoconutShies x = Checks.fairOf("S19H010H190T050L010");
        due("fewest(1, true)", x.fewest(1, true), 11);
        x.toss(0, 0, 0);
        x.set(1);
        due("fewest(1, true), 0 is down", x.fewest(1, true), 1212);
        due("fewest(1, false)", x.fewest(1, false), 2);
    }

    @Says("AT HUSKS that stand then")
    private static void promise17OneThatStandsByThenIsThrownAt() {
        CoconutShies x = Checks.fairOf("S19H091H110H210T040L211L100");
        x.toss(0, 1, 0);
        x.set(0);
        due("fewest(0, true)", x.fewest(0, true), 1312);
    }

    @Says(NOTHING)
    private static void promise17NothingIsChangedOrPaidFor() {
        CHECKS.leavesBusyAlone("fewest(3, true)", x -> x.fewest(3, true), 14);
        CHECKS.leavesBusyAlone("fewest(3, false)", x -> x.fewest(3, false), 1);
        fewest("S10H030T010", 0, 3, 111111);
    }

    // ---- 18 winds

    @Says("UNKNOWN: thrower, husk")
    private static void promise18AThrowerThatThereIsNotIsUnknown() {
        CHECKS.leavesBusyAlone("winds(-1, 1)", x -> x.winds(-1, 1), UNKNOWN);
        CHECKS.leavesBusyAlone("winds(2, 1)", x -> x.winds(2, 1), UNKNOWN);
        CHECKS.leavesBusyAlone("winds(LEAST, 1)", x -> x.winds(LEAST, 1), UNKNOWN);
        CHECKS.leavesBusyAlone("winds(MOST, 1)", x -> x.winds(MOST, 1), UNKNOWN);
    }

    @Says("UNKNOWN: thrower, husk")
    private static void promise18AHuskThatThereIsNotIsUnknown() {
        CHECKS.leavesBusyAlone("winds(1, -1)", x -> x.winds(1, -1), UNKNOWN);
        CHECKS.leavesBusyAlone("winds(1, 4)", x -> x.winds(1, 4), UNKNOWN);
        CHECKS.leavesBusyAlone("winds(1, LEAST)", x -> x.winds(1, LEAST), UNKNOWN);
        CHECKS.leavesBusyAlone("winds(1, MOST)", x -> x.winds(1, MOST), UNKNOWN);
        due("winds(0, 0) with no husk", Checks.fairOf("S10T010").winds(0, 0), UNKNOWN);
        due("winds(0, 0) with nobody", Checks.fairOf("S10H010").winds(0, 0), UNKNOWN);
    }

    @Says("(0: it is down)")
    private static void promise18OfOneThatIsDownItIs0() {
        CHECKS.leavesBusyAlone("winds(0, 0)", x -> x.winds(0, 0), 0);
        CHECKS.leavesBusyAlone("winds(1, 0), a curate", x -> x.winds(1, 0), 0);
    }

    @Says({"WINDS (bits 0 .. 2) by which it can throw AT it", "(if there is such a one)"})
    private static void promise18AtTheEndsOneWindIsLost() {
        int[] due = {3, 7, 7, 7, 7, 7, 7, 6};
        for (int place = 0; place <= 7; place++) {
            for (int kind = 0; kind <= 3; kind++) {
                CoconutShies x = Checks.fairOf("S10H" + place + "10T31" + kind);
                due("winds(0, 0), place " + place + ", kind " + kind, x.winds(0, 0),
                        kind == 1 ? 7 : due[place]);
            }
        }
    }

    @Says({"WINDS (bits 0 .. 2)", NOTHING})
    private static void promise18TheWindThatBlowsIsSetAside() {
        for (int wind = 0; wind <= 2; wind++) {
            CoconutShies x = Checks.fairOf("S" + wind + "0H010H710T010");
            due("winds(0, 0)", x.winds(0, 0), 3);
            due("winds(0, 1)", x.winds(0, 1), 6);
            due("about(3)", x.about(3), wind);
        }
        CHECKS.leavesBusyAlone("winds(0, 3)", x -> x.winds(0, 3), 7);
    }

    // ---- 19 match

    private static void match(String text, int many, int row) {
        CoconutShies x = Checks.fairOf(text);
        due("match(false) of " + text, x.match(false), many);
        due("match(true) of " + text, x.match(true), row);
    }

    @Says("behind a 1; the least as a number)")
    private static void promise19WithNobodyTheRowIs1() {
        due("match(false) of a new one", new CoconutShies().match(false), 0);
        due("match(true) of a new one", new CoconutShies().match(true), 1);
        match("S10H010H110", 0, 1);
    }

    @Says("(figures, THROWER by THROWER: HUSK and 1, 0 none; behind a 1; the least as a number)")
    private static void promise19WithNoHuskNoneThrows() {
        match("S10T090", 0, 10);
        match("S10T090T090", 0, 100);
        match("S10T090T090T090", 0, 1000);
        match("S10T090T090T090T090", 0, 10000);
    }

    @Says("(figures, THROWER by THROWER: HUSK and 1, 0 none; behind a 1; the least as a number)")
    private static void promise19FourThrowersAtFiveHusks() {
        match("S10H010H110H210H310H410T090T090T090T090", 4, 11234);
        match("S10H091H191H291H391H440T010T010T010T010", 1, 15555);
        match("S10H010H190H290H390H490T090T090T090T090L010L120L230L340", 5, 10001);
    }

    @Says("each THROWER, by number, throws AT one HUSK, or not, one behind the other: by which most are down")
    private static void promise19EachThrowsOnceByNumber() {
        match("S10H010H110T090", 1, 11);
        match("S10H020T010", 0, 10);
        match("S10H010H110T090T090L101", 2, 121);
        match("S10H010H190T010T090L101", 1, 101);
    }

    @Says("of like ones the first")
    private static void promise19OfLikeRowsTheLeastIsTold() {
        match("S10H010T090T090", 1, 101);
        match("S10H050T010T040T050", 1, 1001);
        match("S10H050T010T040T010", 1, 1011);
        match("S10H090T040T040", 0, 100);
    }

    @Says("(A HUSK that is down can not be thrown AT.)")
    private static void promise19OneThatIsDownIsNotThrownAt() {
        CoconutShies x = Checks.fairOf("S19H010H110T090T090");
        x.toss(0, 0, 0);
        due("match(true)", x.match(true), 102);
        due("match(false)", x.match(false), 2);
        x.toss(0, 1, 0);
        due("match(true), all are down", x.match(true), 100);
        due("match(false), all are down", x.match(false), 2);
    }

    @Says("(if there is such a one)")
    private static void promise19OutOfReachNoneIsThrownAt() {
        match("S20H010T090", 0, 10);
        match("S00H710T090", 0, 10);
        match("S20H010H710T090", 1, 12);
        match("S20H010T090T091", 1, 101);
    }

    @Says(NOTHING)
    private static void promise19NothingIsChangedOrPaidFor() {
        CHECKS.leavesBusyAlone("match(true)", x -> x.match(true), 132);
        CHECKS.leavesBusyAlone("match(false)", x -> x.match(false), 3);
        match("S10H010T010", 1, 11);
    }

    // ---- 20 nails

    private static void nails(String text, int husk, int want) {
        due("nails(" + husk + ") of " + text, Checks.fairOf(text).nails(husk), want);
    }

    @Says("UNKNOWN")
    private static void promise20AHuskThatThereIsNotIsUnknown() {
        CHECKS.leavesBusyAlone("nails(-1)", x -> x.nails(-1), UNKNOWN);
        CHECKS.leavesBusyAlone("nails(4)", x -> x.nails(4), UNKNOWN);
        CHECKS.leavesBusyAlone("nails(LEAST)", x -> x.nails(LEAST), UNKNOWN);
        CHECKS.leavesBusyAlone("nails(MOST)", x -> x.nails(MOST), UNKNOWN);
    }

    @Says({"NONE", "NONE: it is down, or by none."})
    private static void promise20OfOneThatIsDownThereIsNone() {
        CHECKS.leavesBusyAlone("nails(0)", x -> x.nails(0), NONE);
        CoconutShies x = Checks.fairOf("S29H010H790T091");
        x.toss(0, 0, 0);
        due("nails(0), out of all throws' reach", x.nails(0), NONE);
    }

    @Says({"NONE", "NONE: it is down, or by none."})
    private static void promise20WhereNoNailHelpsThereIsNone() {
        CHECKS.leavesBusyAlone("nails(1)", x -> x.nails(1), NONE);
        nails("S10H050T090", 0, NONE);
        nails("S10H090H110T090L100", 0, NONE);
        nails("S10H070T093", 0, NONE);
        nails("S10H062T090", 0, NONE);
    }

    @Says("it is up behind any one THROW AT a HUSK")
    private static void promise20OneThatStandsNeedsNone() {
        nails("S10H090T080", 0, 0);
        nails("S10H010", 0, 0);
        nails("S20H010T090", 0, 0);
        nails("S10H013T093", 0, 0);
        nails("S10H190H010T080", 0, 0);
    }

    @Says("it is up behind any one THROW AT a HUSK")
    private static void promise20ByItsOwnNailItJustStands() {
        nails("S10H060T090", 0, 1);
        nails("S10H080T093", 0, 1);
        nails("S10H072T090", 0, 1);
        nails("S10H090T010T090", 0, 1);
        nails("S10H090T010T010T010T090", 0, 1);
        nails("S10H090T010T010T010T080", 0, 0);
    }

    @Says("the fewest HUSKS (bits; of like ones the least; such as stand and have none)")
    private static void promise20AllFiveAreNailed() {
        nails("S10H030H130H230H330H430T050L100L200L300L400", 0, 31);
        nails("S10H030H130H230H330H430T050L040L140L240L340", 4, 31);
    }

    @Says("the fewest HUSKS (bits; of like ones the least; such as stand and have none)")
    private static void promise20NoNailMoreThanIsNeeded() {
        nails("S10H030H130H230H330H430T050L100", 0, 3);
        nails("S10H030H190H230H330H430T050L100L200", 0, 5);
        nails("S10H080H130H230H330H430T050L300L200", 0, 12);
    }

    @Says("such as stand and have none")
    private static void promise20OneThatHasANailGetsNoOther() {
        nails("S10H031T080", 0, NONE);
        nails("S10H041T070", 0, 0);
        nails("S10H090H131T070L100", 0, NONE);
        nails("S10H090H141T070L100", 0, 0);
    }

    @Says("such as stand and have none")
    private static void promise20OneThatIsDownGetsNone() {
        CoconutShies x = Checks.fairOf("S19H030H130T050L100");
        due("nails(0)", x.nails(0), 3);
        x.toss(0, 1, 0);
        x.set(0);
        due("nails(0), 1 is down", x.nails(0), 1);
    }

    @Says({"such as stand and have none", NOTHING})
    private static void promise20NothingIsChangedOrPaidFor() {
        CHECKS.leavesBusyAlone("nails(2)", x -> x.nails(2), NONE);
        CHECKS.leavesBusyAlone("nails(3)", x -> x.nails(3), NONE);
        CHECKS.leavesAlone("nails(0)", () -> Checks.fairOf("S10H060T090"), x -> x.nails(0), 1);
    }

    // ---- 21 judge

    private static void judge(CoconutShies x, int n, int row, int want) {
        due("judge(" + n + ", " + row + ")", x.judge(n, row), want);
    }

    @Says({"BAD: n, row (0 or more, 2 n figures at most)", "n doings (1 .. 4)"})
    private static void promise21AnNOutside1To4IsBad() {
        CHECKS.leavesBusyAlone("judge(0, 0)", x -> x.judge(0, 0), BAD);
        CHECKS.leavesBusyAlone("judge(5, 0)", x -> x.judge(5, 0), BAD);
        CHECKS.leavesBusyAlone("judge(-1, 0)", x -> x.judge(-1, 0), BAD);
        CHECKS.leavesBusyAlone("judge(LEAST, 0)", x -> x.judge(LEAST, 0), BAD);
        CHECKS.leavesBusyAlone("judge(MOST, 0)", x -> x.judge(MOST, 0), BAD);
    }

    @Says("BAD: n, row (0 or more, 2 n figures at most)")
    private static void promise21ARowBelow0IsBad() {
        CHECKS.leavesBusyAlone("judge(1, -1)", x -> x.judge(1, -1), BAD);
        CHECKS.leavesBusyAlone("judge(4, -60)", x -> x.judge(4, -60), BAD);
        CHECKS.leavesBusyAlone("judge(4, LEAST)", x -> x.judge(4, LEAST), BAD);
    }

    @Says("BAD: n, row (0 or more, 2 n figures at most)")
    private static void promise21ARowOfMoreThan2NFiguresIsBad() {
        CHECKS.leavesBusyAlone("judge(1, 100)", x -> x.judge(1, 100), BAD);
        CHECKS.leavesBusyAlone("judge(2, 10000)", x -> x.judge(2, 10000), BAD);
        CHECKS.leavesBusyAlone("judge(3, 1000000)", x -> x.judge(3, 1000000), BAD);
        CHECKS.leavesBusyAlone("judge(4, 100000000)", x -> x.judge(4, 100000000), BAD);
        CHECKS.leavesBusyAlone("judge(4, MOST)", x -> x.judge(4, MOST), BAD);
        CHECKS.leavesBusyAlone("judge(1, 6060)", x -> x.judge(1, 6060), BAD);
    }

    @Says("BAD: n, row (0 or more, 2 n figures at most)")
    private static void promise21ARowOf2NFiguresIsJudged() {
        CoconutShies x = Checks.busy();
        judge(x, 1, 99, 0);
        judge(x, 2, 9999, 0);
        judge(x, 3, 999999, 0);
        judge(x, 4, 99999999, 0);
        judge(x, 4, 53535353, NONE);
    }

    @Says("told as two figures each (0 and a HUSK: SET;")
    private static void promise21FiguresAheadThatAreNotToldAre0() {
        CoconutShies x = Checks.busy();
        judge(x, 1, 0, NONE);
        judge(x, 2, 0, 1);
        judge(x, 3, 0, 1);
        judge(x, 4, 0, 1);
        judge(x, 2, 60, NONE);
        judge(x, 3, 6053, NONE);
        judge(x, 1, 1, 0);
        judge(new CoconutShies(), 1, 0, 0);
    }

    @Says({"the place of the first that can not be; NONE: none.", "NONE"})
    private static void promise21TheFirstOfSeveralIsTold() {
        CoconutShies x = Checks.busy();
        judge(x, 4, 53535399, 3);
        judge(x, 4, 53539999, 2);
        judge(x, 4, 53999999, 1);
        judge(x, 4, 99535353, 0);
    }

    @Says("0 and a HUSK: SET;")
    private static void promise21SetOfOneThatStandsCanNotBe() {
        CoconutShies x = Checks.busy();
        judge(x, 1, 0, NONE);
        judge(x, 1, 3, 0);
        judge(x, 1, 4, 0);
        judge(x, 1, 9, 0);
        judge(x, 2, 1303, NONE);
        judge(x, 2, 303, 0);
    }

    @Says("1 .. 4 and a HUSK: that THROWER less 1 throws AT it, paid for;")
    private static void promise21AThrowerOrAHuskThatThereIsNotCanNotBe() {
        CoconutShies x = Checks.busy();
        judge(x, 1, 13, NONE);
        judge(x, 1, 23, NONE);
        judge(x, 1, 33, 0);
        judge(x, 1, 43, 0);
        judge(x, 1, 14, 0);
        judge(x, 1, 19, 0);
        CoconutShies most = Checks.fairOf("S11H010H110H210H310H410T010T010T010T010");
        judge(most, 1, 44, NONE);
        judge(most, 1, 45, 0);
        judge(most, 1, 30, NONE);
    }

    @Says({"that THROWER less 1 throws AT it, paid for;", "(A HUSK that is down can not be thrown AT.)"})
    private static void promise21AThrowAtOneThatIsDownCanNotBe() {
        CoconutShies x = Checks.busy();
        judge(x, 1, 10, 0);
        judge(x, 2, 1323, 1);
        judge(x, 3, 130323, NONE);
    }

    @Says({"that THROWER less 1 throws AT it, paid for;", "(if there is such a one)"})
    private static void promise21AThrowAtOneOutOfReachCanNotBe() {
        judge(Checks.fairOf("S29H010T090"), 1, 10, 0);
        judge(Checks.fairOf("S09H710T090"), 1, 10, 0);
        judge(Checks.fairOf("S29H710T090"), 1, 10, NONE);
        judge(Checks.fairOf("S29H010T091"), 1, 10, NONE);
    }

    @Says("that THROWER less 1 throws AT it, paid for;")
    private static void promise21AThrowThatIsNotPaidForCanNotBe() {
        judge(Checks.fairOf("S10H090T010"), 1, 10, 0);
        judge(Checks.fairOf("S11H090T010"), 2, 1010, 1);
        judge(Checks.fairOf("S13H090T010"), 4, 10101010, 3);
        judge(Checks.fairOf("S14H090T010"), 4, 10101010, NONE);
        judge(Checks.fairOf("S10H090T010"), 4, 60101010, NONE);
        judge(Checks.fairOf("S11H090T010"), 4, 10601010, NONE);
    }

    @Says("5 and a HUSK: NAIL;")
    private static void promise21NailOfOneThatIsDownCanNotBe() {
        CoconutShies x = Checks.busy();
        judge(x, 1, 50, 0);
        judge(x, 1, 51, NONE);
        judge(x, 1, 54, 0);
        judge(x, 1, 59, 0);
        judge(x, 2, 50, NONE);
        judge(x, 2, 1353, 1);
        judge(Checks.fairOf("S10H010H110H210H310H410"), 1, 54, NONE);
        judge(x, 3, 515151, NONE);
        // Twice 4 fell husk 1 when its nail is drawn (5), not while it is in (9).
        judge(x, 4, 51111101, NONE);
        judge(x, 3, 111101, 2);
    }

    @Says("6 and 0: PAID)")
    private static void promise21PaidWithAnotherFigureThan0CanNotBe() {
        CoconutShies x = Checks.fairOf("S10H010");
        judge(x, 1, 60, NONE);
        for (int figure = 1; figure <= 9; figure++) {
            judge(x, 1, 60 + figure, 0);
        }
    }

    @Says("6 and 0: PAID)")
    private static void promise21PaidOf9CanNotBe() {
        judge(Checks.fairOf("S19"), 1, 60, 0);
        judge(Checks.fairOf("S18"), 2, 6060, 1);
        judge(Checks.fairOf("S10"), 4, 60606060, 3);
        judge(Checks.fairOf("S15"), 3, 606060, 2);
        judge(Checks.fairOf("S19H090T010"), 2, 1060, NONE);
    }

    @Says("6 and 0: PAID)")
    private static void promise21FiguresFrom7To9CanNotBe() {
        CoconutShies x = Checks.busy();
        for (int row = 70; row <= 99; row++) {
            judge(x, 1, row, 0);
        }
    }

    @Says(NOTHING)
    private static void promise21NothingIsChanged() {
        CHECKS.leavesBusyAlone("judge(3, 601300)", x -> x.judge(3, 601300), NONE);
        CHECKS.leavesBusyAlone("judge(4, 53111399)", x -> x.judge(4, 53111399), 3);
    }

    // ---- 22 share

    private static void share(CoconutShies x, int thrower, int above, int below) {
        due("share(" + thrower + ", true)", x.share(thrower, true), above);
        due("share(" + thrower + ", false)", x.share(thrower, false), below);
    }

    @Says("UNKNOWN")
    private static void promise22AThrowerThatThereIsNotIsUnknown() {
        CHECKS.leavesBusyAlone("share(-1, true)", x -> x.share(-1, true), UNKNOWN);
        CHECKS.leavesBusyAlone("share(2, false)", x -> x.share(2, false), UNKNOWN);
        CHECKS.leavesBusyAlone("share(LEAST, true)", x -> x.share(LEAST, true), UNKNOWN);
        CHECKS.leavesBusyAlone("share(MOST, false)", x -> x.share(MOST, false), UNKNOWN);
        due("share(0, true) with nobody", Checks.fairOf("S10H010").share(0, true), UNKNOWN);
    }

    @Says("FRACTIONS are told above (upper = true), below, in least terms.")
    private static void promise22NothingIs0Of1() {
        share(Checks.fairOf("S10T090"), 0, 0, 1);
        share(Checks.fairOf("S10H091T090T090T090T010"), 3, 0, 1);
        share(Checks.fairOf("S20H010T090T090"), 1, 0, 1);
        CoconutShies down = Checks.fairOf("S11H010T090T090");
        down.toss(0, 0, 0);
        share(down, 0, 0, 1);
    }

    @Says("FRACTIONS are told above (upper = true), below, in least terms.")
    private static void promise22WholeOnesAreOf1() {
        share(Checks.fairOf("S10H010T090"), 0, 1, 1);
        share(Checks.fairOf("S10H010H190H290H390H490T010L010L120L230L340"), 0, 5, 1);
        share(Checks.fairOf("S10H010H110H210H310T090T090T090T090"), 3, 1, 1);
    }

    @Says({"in each order as likely", "FRACTIONS are told above (upper = true), below, in least terms."})
    private static void promise22OfFourThrowersInLeastTerms() {
        // 9 are needed, of 4, 3, 2 and 2: the first two and one of the others.
        CoconutShies x = Checks.fairOf("S10H090T040T030T020T020");
        share(x, 0, 5, 12);
        share(x, 1, 5, 12);
        share(x, 2, 1, 12);
        share(x, 3, 1, 12);
        // Of 6, 3, 3 and 3 the first one and one more, or all the others.
        CoconutShies y = Checks.fairOf("S10H090T060T030T030T030");
        share(y, 0, 1, 2);
        share(y, 3, 1, 6);
        share(Checks.fairOf("S10H090T030T030T020T010"), 2, 1, 4);
    }

    @Says("by how many in the mean HUSKS that are down by MATCH are more when it has come than they were")
    private static void promise22WhatWasDownIsNobodysShare() {
        CoconutShies x = Checks.fairOf("S12H010H110H210T090T090");
        share(x, 0, 1, 1);
        x.toss(0, 0, 0);
        share(x, 0, 1, 1);
        x.toss(0, 1, 0);
        share(x, 0, 1, 2);
    }

    @Says(NOTHING)
    private static void promise22NothingIsChangedOrPaidFor() {
        CHECKS.leavesBusyAlone("share(0, true)", x -> x.share(0, true), 1);
        CHECKS.leavesBusyAlone("share(1, false)", x -> x.share(1, false), 1);
    }
}

/** Promises 1 to 9: each sentence that names a boundary case, in a test of its own. */
public final class BoundsFairTest {
    private static final int UNKNOWN = -1, BAD = -2, LATE = -3, FULL = -4, NONE = -9;
    private static final int LEAST = Integer.MIN_VALUE, MOST = Integer.MAX_VALUE;
    private static final String MOST_PARTS = "S29H093H193H293H393H493T393T393T393T393L010L120L230L341";
    private static final Checks CHECKS = new Checks();

    public static void main(String[] args) {
        Sentences.runAll(BoundsFairTest.class, CHECKS);
    }

    private static void due(String call, long got, long want) {
        CHECKS.due(call, got, want);
    }

    // ---- 1 a new object

    @Says("No husks, nobody.")
    private static void promise1NoHusksNobody() {
        CoconutShies x = new CoconutShies();
        due("about(0)", x.about(0), 0);
        due("about(1)", x.about(1), 0);
        due("husk(0, 0)", x.husk(0, 0), UNKNOWN);
        due("thrower(0, 0)", x.thrower(0, 0), UNKNOWN);
    }

    @Says("At first WIND is 1, no THROWS are paid for, there is no HUSK, nobody, no LAW.")
    private static void promise1AtFirstWindIs1NothingPaidNoLaw() {
        CoconutShies x = new CoconutShies();
        due("about(2)", x.about(2), 0);
        due("about(3)", x.about(3), 1);
        due("about(4)", x.about(4), 0);
        due("about(5)", x.about(5), 0);
        due("blow(1)", x.blow(1), LATE);
        due("pay()", x.pay(), 3);
    }

    @Says("6 such at most, none at first")
    private static void promise1NothingIsSeenAtFirst() {
        CoconutShies x = new CoconutShies();
        due("about(7)", x.about(7), 0);
        due("unsee()", x.unsee(), 0);
    }

    @Says("x (THE SEED, a long; 0 at first)")
    private static void promise1TheSeedIs0AtFirst() {
        due("seed(9)", new CoconutShies().seed(9), 0);
    }

    @Says("A new object")
    private static void promise1NothingIsWrittenDoneOrKept() {
        CoconutShies x = new CoconutShies();
        due("about(8)", x.about(8), 0);
        due("about(6)", x.about(6), 0);
        due("undo()", x.undo(), LATE);
        due("again(0)", x.again(0), LATE);
        due("again(1)", x.again(1), LATE);
        due("wipe()", x.wipe(), 0);
    }

    @Says("A new object")
    private static void promise1OneObjectIsApartFromAnother() {
        CoconutShies x = Checks.busy();
        CoconutShies y = new CoconutShies();
        String other = Checks.stateOf(x);
        y.write(83);
        y.pay();
        y.seed(5);
        CHECKS.sameState("the first one", x, other);
        due("seed(0) of the first one", x.seed(0), 77);
        due("again(0) of the new one", y.again(0), LATE);
    }

    @Says({"UNKNOWN -1 (there is no such HUSK, THROWER, SLOT), BAD -2, LATE -3, FULL -4.", "NONE is -9."})
    private static void promise1Refusals() {
        due("UNKNOWN", CoconutShies.UNKNOWN, -1);
        due("BAD", CoconutShies.BAD, -2);
        due("LATE", CoconutShies.LATE, -3);
        due("FULL", CoconutShies.FULL, -4);
        due("NONE", CoconutShies.NONE, -9);
    }

    // ---- 2 write

    @Says({"A byte (0 .. 255)", "BAD"})
    private static void promise2ALetterBelow0IsBad() {
        CHECKS.leavesBusyAlone("write(-1)", x -> x.write(-1), BAD);
        CHECKS.leavesBusyAlone("write(LEAST)", x -> x.write(LEAST), BAD);
        CHECKS.leavesBusyAlone("write(83 - 256)", x -> x.write(83 - 256), BAD);
    }

    @Says({"A byte (0 .. 255)", "BAD"})
    private static void promise2ALetterAbove255IsBad() {
        CHECKS.leavesBusyAlone("write(256)", x -> x.write(256), BAD);
        CHECKS.leavesBusyAlone("write(MOST)", x -> x.write(MOST), BAD);
        CHECKS.leavesBusyAlone("write(83 + 256)", x -> x.write(83 + 256), BAD);
    }

    @Says("A byte (0 .. 255) comes behind THE TEXT: how long it is.")
    private static void promise2Letters0And255AreBytes() {
        CoconutShies x = new CoconutShies();
        due("write(0)", x.write(0), 1);
        due("write(255)", x.write(255), 2);
        due("about(8)", x.about(8), 2);
    }

    @Says("THE TEXT is bytes (60 at most).")
    private static void promise2The60thByteIsWritten() {
        CoconutShies x = new CoconutShies();
        for (int length = 1; length <= 60; length++) {
            due("write(" + length + ")", x.write(length), length);
        }
        due("about(8)", x.about(8), 60);
    }

    /** A text of 60 bytes that is a fair but for its end. */
    private static CoconutShies full() {
        CoconutShies x = Checks.fairOf(MOST_PARTS);
        for (int i = 0; i < 5; i++) {
            x.write(72);
        }
        return x;
    }

    @Says("FULL: there are 60")
    private static void promise2The61stByteIsRefused() {
        CHECKS.leavesAlone("write(72)", BoundsFairTest::full, x -> x.write(72), FULL);
        CHECKS.leavesAlone("write(0)", BoundsFairTest::full, x -> x.write(0), FULL);
        CHECKS.leavesAlone("write(255)", BoundsFairTest::full, x -> x.write(255), FULL);
    }

    @Says("Of several what is told first.")
    private static void promise2BadIsToldAheadOfFull() {
        due("write(256)", full().write(256), BAD);
        due("write(-1)", full().write(-1), BAD);
    }

    @Says("FULL: there are 60")
    private static void promise2BehindAWipeThereIsRoomAgain() {
        CoconutShies x = full();
        x.wipe();
        due("write(83)", x.write(83), 1);
        due("fault()", x.fault(), 1);
    }

    // ---- 3 wipe

    @Says("THE TEXT is empty: how long it was.")
    private static void promise3WipeOfAnEmptyText() {
        CoconutShies x = new CoconutShies();
        due("wipe()", x.wipe(), 0);
        due("wipe() again", x.wipe(), 0);
        due("about(8)", x.about(8), 0);
    }

    @Says("THE TEXT is empty: how long it was.")
    private static void promise3WipeOfAFullText() {
        CoconutShies x = full();
        due("wipe()", x.wipe(), 60);
        due("about(8)", x.about(8), 0);
        due("fault()", x.fault(), 0);
        due("wipe() again", x.wipe(), 0);
    }

    @Says("THE TEXT is empty")
    private static void promise3WhatWasWrittenIsGone() {
        CoconutShies x = Checks.fairOf("S19H010");
        x.wipe();
        Checks.tell(x, "S1");
        due("fault()", x.fault(), 2);
        x.write('0');
        due("fair()", x.fair(), 0);
    }

    @Says("THE TEXT is empty")
    private static void promise3TheFairStays() {
        CoconutShies x = Checks.busy();
        x.wipe();
        int[] due = {4, 2, 2, 2, 5, 1, 7, 2, 0};
        for (int what = 0; what <= 8; what++) {
            due("about(" + what + ")", x.about(what), due[what]);
        }
        due("undo()", x.undo(), 6);
        due("again(1)", x.again(1), 2);
    }

    // ---- 4 fault

    private static void fault(String text, int want) {
        CoconutShies x = new CoconutShies();
        Checks.tell(x, text);
        due("fault() of '" + text + "'", x.fault(), want);
    }

    /** At a place of a text these bytes can stand, and all the others are its fault. */
    private static void onlyThese(String ahead, String these) {
        for (char letter = 0; letter <= 255; letter++) {
            CoconutShies x = new CoconutShies();
            Checks.tell(x, ahead + letter);
            int fault = x.fault();
            boolean can = fault == NONE || fault == ahead.length() + 1;
            boolean wrong = fault == ahead.length();
            due("fault() of '" + ahead + "' and byte " + (int) letter + ", 1 if it can be, 0 if not",
                    can ? 1 : wrong ? 0 : fault, these.indexOf(letter) >= 0 ? 1 : 0);
        }
    }

    @Says("its length, if it is only not at its end")
    private static void promise4AnEmptyTextIsNotAtItsEnd() {
        fault("", 0);
    }

    @Says("its length, if it is only not at its end; NONE: none.")
    private static void promise4ATextThatIsCutIsToldByItsLength() {
        for (int length = 0; length <= MOST_PARTS.length(); length++) {
            boolean atEnd = length >= 3 && length % 4 == 3;
            fault(MOST_PARTS.substring(0, length), atEnd ? NONE : length);
        }
    }

    @Says({"FAULT", "then PARTS, none or more"})
    private static void promise4NoPartsAreAFair() {
        fault("S00", NONE);
        fault("S10", NONE);
        fault("S29", NONE);
    }

    @Says("A FAIR is a TEXT: S,")
    private static void promise4ItsFirstByteIsS() {
        onlyThese("", "S");
    }

    @Says("WIND (0: one place down, 1: none, 2: one place up)")
    private static void promise4WindIs0To2() {
        onlyThese("S", "012");
    }

    @Says("THROWS that are paid for (0 .. 9)")
    private static void promise4PaidForAre0To9() {
        onlyThese("S1", "0123456789");
    }

    @Says("then PARTS, none or more")
    private static void promise4APartIsAHuskOrAThrowerOrALaw() {
        onlyThese("S10H010H110", "HTL");
    }

    @Says("7 in a row.")
    private static void promise4APlaceIs0To7() {
        onlyThese("S10H", "01234567");
    }

    @Says("a HUSK at PLACE p (where none is told yet)")
    private static void promise4AtAPlaceThatIsToldThereIsNoOther() {
        onlyThese("S10H010H", "1234567");
        onlyThese("S10H710H310T010H", "012456");
        onlyThese("S10H010H110H210H310H", "4567");
    }

    @Says("of HOLD h (1 .. 9)")
    private static void promise4AHoldIs1To9() {
        onlyThese("S10H0", "123456789");
    }

    @Says("of KIND k (0 PLAIN, 1 NAILED, 2 BALD, 3 SPLIT)")
    private static void promise4AHusksKindIs0To3() {
        onlyThese("S10H01", "0123");
    }

    @Says("a THROWER of AIM a (0 .. 3)")
    private static void promise4AnAimIs0To3() {
        onlyThese("S10T", "0123");
    }

    @Says("of FORCE f (1 .. 9)")
    private static void promise4AForceIs1To9() {
        onlyThese("S10T0", "123456789");
    }

    @Says("of KIND k (0 PLAIN, 1 CURATE, 2 LEFT, 3 NAVVY)")
    private static void promise4AThrowersKindIs0To3() {
        onlyThese("S10T01", "0123");
    }

    @Says("HUSKS are 0, 1, .. (5 at most)")
    private static void promise4ASixthHuskIsAFault() {
        onlyThese("S10H010H110H210H310", "HTL");
        onlyThese("S10H010H110H210H310H410", "TL");
        fault("S10H010H110H210H310H410H510", 23);
    }

    @Says("THROWERS 0, 1, .. (4 at most)")
    private static void promise4AFifthThrowerIsAFault() {
        onlyThese("S10T010T010T010", "HT");
        onlyThese("S10T010T010T010T010", "H");
        fault("S10T010T010T010T010T010", 19);
    }

    @Says("LAWS are told in order (4 at most)")
    private static void promise4AFifthLawIsAFault() {
        onlyThese("S10H010H110L010L010L010", "HTL");
        onlyThese("S10H010H110L010L010L010L010", "HT");
        fault("S10H010H110L010L010L010L010L010", 27);
    }

    @Says("another one j (both told ahead)")
    private static void promise4WithFewerThanTwoHusksThereIsNoLaw() {
        onlyThese("S10", "HT");
        onlyThese("S10H010", "HT");
        onlyThese("S10T010H010T010", "HT");
    }

    @Says("by LAW when HUSK i falls another one j (both told ahead)")
    private static void promise4ALawsHusksAreToldAhead() {
        onlyThese("S10H010H110L", "01");
        onlyThese("S10H010H110H210H310H410L", "01234");
        onlyThese("S10H010H110H210L0", "12");
        fault("S10H010H110L020H210", 13);
        fault("S10H010H110L200H210", 12);
    }

    @Says("another one j")
    private static void promise4ALawsHusksAreTwo() {
        onlyThese("S10H010H110L0", "1");
        onlyThese("S10H010H110L1", "0");
        onlyThese("S10H010H110H210H310H410L4", "0123");
    }

    @Says("falls, too (k = 0), or is set up again (k = 1)")
    private static void promise4ALawsKindIs0Or1() {
        onlyThese("S10H010H110L01", "01");
    }

    @Says("FAULT: the place of the first byte by which THE TEXT can be no FAIR")
    private static void promise4OfSeveralWrongBytesTheFirstIsTold() {
        fault("X3:", 0);
        fault("S3:", 1);
        fault("S1:X", 2);
        fault("S10X", 3);
        fault("S10H804", 4);
        fault("S10H004", 5);
        fault("S10H014X", 6);
        fault("S10H010H004", 8);
    }

    @Says("whatever came behind it")
    private static void promise4WhatIsBehindAWrongByteMendsNothing() {
        fault("s10H010", 0);
        fault(" S10H010", 0);
        fault("S10 H010", 3);
        fault("S10H800H010", 4);
        fault("S10L01H010H110", 3);
    }

    @Says("(its length set aside)")
    private static void promise4AFullTextIsToldByItsByte() {
        fault(MOST_PARTS + "HHHHH", 55);
        fault(MOST_PARTS + "00000", 55);
        fault("S".repeat(60), 1);
        fault("S10" + "T010".repeat(4) + "H010H110" + "L010".repeat(4) + "T", 43);
    }

    @Says({"FAULT", "NONE"})
    private static void promise4FaultChangesNothing() {
        CHECKS.leavesBusyAlone("fault()", CoconutShies::fault, NONE);
        CHECKS.leavesAlone("fault()", () -> otherText("S21H"), CoconutShies::fault, 4);
        CHECKS.leavesAlone("fault()", () -> otherText("S21H710T110"), CoconutShies::fault, NONE);
    }

    /** Another text than that of its fair. */
    private static CoconutShies otherText(String text) {
        CoconutShies x = Checks.busy();
        Checks.tell(x, text);
        return x;
    }

    // ---- 5 fair

    @Says("LATE: a FAULT")
    private static void promise5AnEmptyTextIsRefused() {
        due("fair()", new CoconutShies().fair(), LATE);
        CHECKS.leavesAlone("fair()", () -> otherText(""), CoconutShies::fair, LATE);
    }

    @Says("LATE: a FAULT")
    private static void promise5AWrongTextIsRefused() {
        CHECKS.leavesAlone("fair()", () -> otherText("S21H710H7"), CoconutShies::fair, LATE);
        CHECKS.leavesAlone("fair()", () -> otherText("S30"), CoconutShies::fair, LATE);
        CHECKS.leavesAlone("fair()", () -> otherText("S21H710T010X"), CoconutShies::fair, LATE);
    }

    @Says("LATE: a FAULT")
    private static void promise5ATextThatIsCutIsRefused() {
        for (String text : new String[] {"S", "S2", "S21H", "S21H7", "S21H71", "S21T", "S21T0", "S21T01"}) {
            CHECKS.leavesAlone("fair() of " + text, () -> otherText(text), CoconutShies::fair, LATE);
        }
    }

    private static void fair(String text, int want) {
        CoconutShies x = new CoconutShies();
        Checks.tell(x, text);
        due("fair() of " + text, x.fair(), want);
        due("about(0)", x.about(0), want / 100);
        due("about(1)", x.about(1), want / 10 % 10);
        due("about(2)", x.about(2), want % 10);
    }

    @Says({"100 times HUSKS, 10 times THROWERS, and LAWS.", "then PARTS, none or more"})
    private static void promise5AFairOfNoParts() {
        fair("S10", 0);
    }

    @Says({"100 times HUSKS, 10 times THROWERS, and LAWS.", "LAWS are told in order (4 at most)"})
    private static void promise5AFairOfMostParts() {
        fair(MOST_PARTS, 544);
    }

    @Says("100 times HUSKS, 10 times THROWERS, and LAWS.")
    private static void promise5AFairOfOneKindOfParts() {
        fair("S10H010", 100);
        fair("S10T010", 10);
        fair("S10H010H110L010", 201);
        fair("S10H010H110H210H310H410", 500);
        fair("S10T010T010T010T010", 40);
    }

    @Says("(no ACTS; what was kept is gone; SEEN, THE SEED stay)")
    private static void promise5NoActsAreLeft() {
        CoconutShies x = Checks.busy();
        due("fair()", x.fair(), 422);
        due("about(6)", x.about(6), 0);
        due("undo()", x.undo(), LATE);
    }

    @Says("(no ACTS; what was kept is gone; SEEN, THE SEED stay)")
    private static void promise5WhatWasKeptIsGone() {
        CoconutShies x = Checks.busy();
        x.fair();
        due("again(0)", x.again(0), LATE);
        due("again(1)", x.again(1), LATE);
    }

    @Says("(no ACTS; what was kept is gone; SEEN, THE SEED stay)")
    private static void promise5SeenAndTheSeedStay() {
        CoconutShies x = Checks.busy();
        x.fair();
        due("about(7)", x.about(7), 2);
        due("holds(0)", x.holds(0), 992);
        due("seed(0)", x.seed(0), 77);
    }

    @Says("THE TEXT is THE FAIR")
    private static void promise5TheTextStays() {
        CoconutShies x = Checks.busy();
        due("fair()", x.fair(), 422);
        due("about(8)", x.about(8), 35);
        due("fair() again", x.fair(), 422);
        due("wipe()", x.wipe(), 35);
        due("fair() of an empty text", x.fair(), LATE);
        due("about(0)", x.about(0), 4);
    }

    @Says("When THE FAIR is made anew, all HUSKS stand")
    private static void promise5AllHusksStand() {
        CoconutShies x = Checks.fairOf("S11H010H190T090L010");
        due("toss(0, 0, 0)", x.toss(0, 0, 0), 3);
        x.fair();
        due("about(5)", x.about(5), 0);
        due("husk(0, 8)", x.husk(0, 8), 0);
        due("husk(1, 8)", x.husk(1, 8), 0);
    }

    @Says("none is LOOSE, HALVED, no NAIL is in but of those NAILED.")
    private static void promise5NoneIsLooseHalvedOrHit() {
        CoconutShies x = Checks.busy();
        due("husk(2, 4)", x.husk(2, 4), 9);
        due("husk(3, 6)", x.husk(3, 6), 1);
        x.fair();
        for (int husk = 0; husk < 4; husk++) {
            for (int what = 4; what <= 6; what++) {
                due("husk(" + husk + ", " + what + ")", x.husk(husk, what), 0);
            }
        }
    }

    @Says("no NAIL is in but of those NAILED.")
    private static void promise5NailsAreThoseOfNailedOnes() {
        CoconutShies x = Checks.fairOf("S10H010H111H212H313H411");
        for (int husk = 0; husk < 4; husk++) {
            x.nail(husk);
        }
        x.fair();
        int[] due = {0, 1, 0, 0, 1};
        for (int husk = 0; husk < 5; husk++) {
            due("husk(" + husk + ", 7)", x.husk(husk, 7), due[husk]);
        }
    }

    @Says("THE TEXT is THE FAIR")
    private static void promise5WindAndWhatIsPaidForAreThoseOfTheText() {
        CoconutShies x = new CoconutShies();
        for (int wind = 0; wind <= 2; wind++) {
            for (int paid = 0; paid <= 9; paid++) {
                Checks.tell(x, "S" + wind + paid);
                x.fair();
                due("about(3)", x.about(3), wind);
                due("about(4)", x.about(4), paid);
            }
        }
    }

    @Says("THE TEXT is THE FAIR")
    private static void promise5WhatItDoesNotTellThereIsNotAnyMore() {
        CoconutShies x = Checks.fairOf(MOST_PARTS);
        Checks.tell(x, "S10H510T110");
        due("fair()", x.fair(), 110);
        due("husk(0, 0)", x.husk(0, 0), 5);
        due("husk(1, 0)", x.husk(1, 0), UNKNOWN);
        due("thrower(1, 0)", x.thrower(1, 0), UNKNOWN);
        due("about(2)", x.about(2), 0);
    }

    @Says("THE TEXT is THE FAIR")
    private static void promise5EarlierFairsLeaveNoTrace() {
        CoconutShies x = new CoconutShies();
        for (String text : new String[] {MOST_PARTS, "S00", "S10H610T010", "S21H353H590T010T120L010"}) {
            Checks.tell(x, text);
            x.fair();
            askedAlike(x, Checks.fairOf(text));
            x.toss(0, 3, 0);
            x.nail(1);
            x.keep(1);
        }
    }

    private static void askedAlike(CoconutShies x, CoconutShies fresh) {
        for (int i = -1; i <= 5; i++) {
            due("fewest(" + i + ", true)", x.fewest(i, true), fresh.fewest(i, true));
            due("nails(" + i + ")", x.nails(i), fresh.nails(i));
            due("share(" + i + ", false)", x.share(i, false), fresh.share(i, false));
            due("winds(" + i + ", 0)", x.winds(i, 0), fresh.winds(i, 0));
            due("felled(" + i + ", 5, 0)", x.felled(i, 5, 0), fresh.felled(i, 5, 0));
        }
        due("match(true)", x.match(true), fresh.match(true));
        due("rests(0)", x.rests(0), fresh.rests(0));
        due("rests(1)", x.rests(1), fresh.rests(1));
        due("judge(2, 6011)", x.judge(2, 6011), fresh.judge(2, 6011));
        CHECKS.sameState("a fair that was not the first", x, Checks.stateOf(fresh));
    }

    // ---- 6 about

    @Says("BAD")
    private static void promise6WhatBelow0IsBad() {
        CHECKS.leavesBusyAlone("about(-1)", x -> x.about(-1), BAD);
        CHECKS.leavesBusyAlone("about(LEAST)", x -> x.about(LEAST), BAD);
    }

    @Says("BAD")
    private static void promise6WhatAbove8IsBad() {
        CHECKS.leavesBusyAlone("about(9)", x -> x.about(9), BAD);
        CHECKS.leavesBusyAlone("about(MOST)", x -> x.about(MOST), BAD);
    }

    @Says("HUSKS (what = 0), THROWERS (1), LAWS (2), WIND (3), THROWS that are paid for (4), "
            + "what is down (5: bits), ACTS (6), SEEN (7), bytes of THE TEXT (8).")
    private static void promise6OfAnObjectThatIsEmpty() {
        CoconutShies x = new CoconutShies();
        for (int what = 0; what <= 8; what++) {
            due("about(" + what + ")", x.about(what), what == 3 ? 1 : 0);
        }
    }

    @Says("HUSKS (what = 0), THROWERS (1), LAWS (2), WIND (3), THROWS that are paid for (4), "
            + "what is down (5: bits), ACTS (6), SEEN (7), bytes of THE TEXT (8).")
    private static void promise6OfAnObjectThatIsFull() {
        CoconutShies x = Checks.fairOf("S29H010H110H210H310H410T091T091T091T091L010L120L230L340");
        x.toss(0, 0, 0);
        x.pay();
        for (int i = 0; i < 20; i++) {
            x.see(0, 1, 1);
            x.write(0);
            x.set(4);
            x.undo();
            x.blow(i % 2);
        }
        x.blow(2);
        int[] due = {5, 4, 4, 2, 9, 31, 14, 6, 60};
        for (int what = 0; what <= 8; what++) {
            due("about(" + what + ")", x.about(what), due[what]);
        }
    }

    @Says("what is down (5: bits)")
    private static void promise6DownAreBits() {
        CoconutShies x = Checks.fairOf("S19H010H110H210H310H410T091");
        for (int husk = 0; husk < 5; husk++) {
            x.toss(0, husk, 0);
            due("about(5)", x.about(5), 1 << husk);
            x.set(husk);
            due("about(5) when it is set up", x.about(5), 0);
        }
    }

    // ---- 7 husk

    @Says("UNKNOWN")
    private static void promise7AHuskBelow0IsUnknown() {
        CHECKS.leavesBusyAlone("husk(-1, 0)", x -> x.husk(-1, 0), UNKNOWN);
        CHECKS.leavesBusyAlone("husk(LEAST, 0)", x -> x.husk(LEAST, 0), UNKNOWN);
    }

    @Says("UNKNOWN")
    private static void promise7AHuskThatIsNotToldIsUnknown() {
        CHECKS.leavesBusyAlone("husk(4, 0)", x -> x.husk(4, 0), UNKNOWN);
        CHECKS.leavesBusyAlone("husk(MOST, 0)", x -> x.husk(MOST, 0), UNKNOWN);
        due("husk(0, 0) of none", Checks.fairOf("S10").husk(0, 0), UNKNOWN);
        CoconutShies most = Checks.fairOf(MOST_PARTS);
        due("husk(4, 0) of five", most.husk(4, 0), 4);
        due("husk(5, 0) of five", most.husk(5, 0), UNKNOWN);
    }

    @Says("BAD")
    private static void promise7WhatOutside0To8IsBad() {
        CHECKS.leavesBusyAlone("husk(0, -1)", x -> x.husk(0, -1), BAD);
        CHECKS.leavesBusyAlone("husk(0, 9)", x -> x.husk(0, 9), BAD);
        CHECKS.leavesBusyAlone("husk(3, LEAST)", x -> x.husk(3, LEAST), BAD);
        CHECKS.leavesBusyAlone("husk(3, MOST)", x -> x.husk(3, MOST), BAD);
    }

    @Says("Of several what is told first.")
    private static void promise7UnknownIsToldAheadOfBad() {
        due("husk(4, 9)", Checks.busy().husk(4, 9), UNKNOWN);
        due("husk(-1, -1)", Checks.busy().husk(-1, -1), UNKNOWN);
    }

    @Says("Of a HUSK its PLACE (what = 0), HOLD (1), KIND (2)")
    private static void promise7PlacesHoldsAndKindsAtTheirEdges() {
        CoconutShies x = Checks.fairOf("S10H010H793H492");
        int[][] due = {{0, 1, 0}, {7, 9, 3}, {4, 9, 2}};
        for (int husk = 0; husk < 3; husk++) {
            for (int what = 0; what < 3; what++) {
                due("husk(" + husk + ", " + what + ")", x.husk(husk, what), due[husk][what]);
            }
        }
    }

    @Says("FIRM is a HUSK: its HOLD, 4 more, if a NAIL is in")
    private static void promise7ANailIs4More() {
        CoconutShies x = Checks.fairOf("S10H010H191");
        due("husk(0, 3)", x.husk(0, 3), 1);
        due("husk(1, 3)", x.husk(1, 3), 13);
        x.nail(0);
        x.nail(1);
        due("husk(0, 3) with a nail", x.husk(0, 3), 5);
        due("husk(1, 3) without one", x.husk(1, 3), 9);
    }

    @Says("half of that (cut; 1 at least), if it is HALVED")
    private static void promise7HalfIsCutAnd1AtLeast() {
        int[] half = {1, 1, 1, 2, 2, 3, 3, 4, 4};
        int[] halfWithNail = {2, 3, 3, 4, 4, 5, 5, 6, 6};
        for (int hold = 1; hold <= 9; hold++) {
            CoconutShies x = Checks.fairOf("S19H0" + hold + "3T091");
            due("FIRM ahead, of " + hold, x.husk(0, 3), hold);
            x.toss(0, 0, 0);
            due("FIRM by half, of " + hold, x.husk(0, 3), half[hold - 1]);
            x.nail(0);
            due("FIRM by half with a nail, of " + hold, x.husk(0, 3), halfWithNail[hold - 1]);
        }
    }

    @Says("less how often it was hit, if it is BALD (1 at least).")
    private static void promise7ABaldOneIs1AtLeast() {
        CoconutShies x = Checks.fairOf("S19H032T091");
        int[] due = {2, 1, 1, 1};
        for (int hits = 1; hits <= 4; hits++) {
            x.toss(0, 0, 0);
            x.set(0);
            due("husk(0, 5)", x.husk(0, 5), hits);
            due("husk(0, 3)", x.husk(0, 3), due[hits - 1]);
        }
        x.nail(0);
        due("husk(0, 3) with a nail", x.husk(0, 3), 3);
        x.toss(0, 0, 0);
        x.set(0);
        x.toss(0, 0, 0);
        x.set(0);
        due("husk(0, 3) with a nail, hit 6 times", x.husk(0, 3), 1);
        x.toss(0, 0, 0);
        x.set(0);
        due("husk(0, 3) with a nail, hit 7 times", x.husk(0, 3), 1);
    }

    @Says("less how often it was hit, if it is BALD")
    private static void promise7OthersAreAsFirmHoweverOftenTheyWereHit() {
        CoconutShies x = Checks.fairOf("S19H090H191H293T011");
        for (int husk = 0; husk < 3; husk++) {
            x.toss(0, husk, 0);
            x.toss(0, husk, 0);
            due("husk(" + husk + ", 5)", x.husk(husk, 5), 2);
            due("husk(" + husk + ", 3)", x.husk(husk, 3), husk == 1 ? 13 : 9);
        }
    }

    // ---- 8 thrower

    @Says("UNKNOWN")
    private static void promise8AThrowerBelow0IsUnknown() {
        CHECKS.leavesBusyAlone("thrower(-1, 0)", x -> x.thrower(-1, 0), UNKNOWN);
        CHECKS.leavesBusyAlone("thrower(LEAST, 0)", x -> x.thrower(LEAST, 0), UNKNOWN);
    }

    @Says("UNKNOWN")
    private static void promise8AThrowerThatIsNotToldIsUnknown() {
        CHECKS.leavesBusyAlone("thrower(2, 0)", x -> x.thrower(2, 0), UNKNOWN);
        CHECKS.leavesBusyAlone("thrower(MOST, 0)", x -> x.thrower(MOST, 0), UNKNOWN);
        due("thrower(0, 0) of none", Checks.fairOf("S10H010").thrower(0, 0), UNKNOWN);
        CoconutShies most = Checks.fairOf(MOST_PARTS);
        due("thrower(3, 0) of four", most.thrower(3, 0), 3);
        due("thrower(4, 0) of four", most.thrower(4, 0), UNKNOWN);
    }

    @Says("BAD")
    private static void promise8WhatOutside0To3IsBad() {
        CHECKS.leavesBusyAlone("thrower(0, -1)", x -> x.thrower(0, -1), BAD);
        CHECKS.leavesBusyAlone("thrower(0, 4)", x -> x.thrower(0, 4), BAD);
        CHECKS.leavesBusyAlone("thrower(1, LEAST)", x -> x.thrower(1, LEAST), BAD);
        CHECKS.leavesBusyAlone("thrower(1, MOST)", x -> x.thrower(1, MOST), BAD);
    }

    @Says("Of several what is told first.")
    private static void promise8UnknownIsToldAheadOfBad() {
        due("thrower(2, 4)", Checks.busy().thrower(2, 4), UNKNOWN);
        due("thrower(-1, -1)", Checks.busy().thrower(-1, -1), UNKNOWN);
    }

    @Says("Of a THROWER its AIM (what = 0), FORCE (1), KIND (2), how much LOOSER it makes (3).")
    private static void promise8AimsForcesAndKindsAtTheirEdges() {
        CoconutShies x = Checks.fairOf("S10T010T391T392T393");
        int[][] due = {{0, 1, 0, 1}, {3, 9, 1, 9}, {3, 9, 2, 9}, {3, 9, 3, 11}};
        for (int thrower = 0; thrower < 4; thrower++) {
            for (int what = 0; what <= 3; what++) {
                due("thrower(" + thrower + ", " + what + ")", x.thrower(thrower, what), due[thrower][what]);
            }
        }
        due("the weakest navvy", Checks.fairOf("S10T013").thrower(0, 3), 3);
    }

    // ---- 9 lands

    @Says("UNKNOWN")
    private static void promise9AThrowerThatThereIsNotIsUnknown() {
        CHECKS.leavesBusyAlone("lands(-1, 0, 0)", x -> x.lands(-1, 0, 0), UNKNOWN);
        CHECKS.leavesBusyAlone("lands(2, 0, 0)", x -> x.lands(2, 0, 0), UNKNOWN);
        CHECKS.leavesBusyAlone("lands(LEAST, 0, 0)", x -> x.lands(LEAST, 0, 0), UNKNOWN);
        CHECKS.leavesBusyAlone("lands(MOST, 0, 0)", x -> x.lands(MOST, 0, 0), UNKNOWN);
    }

    @Says("BAD: place, luck (0 .. 2)")
    private static void promise9APlaceOutside0To7IsBad() {
        CHECKS.leavesBusyAlone("lands(0, -1, 0)", x -> x.lands(0, -1, 0), BAD);
        CHECKS.leavesBusyAlone("lands(0, 8, 0)", x -> x.lands(0, 8, 0), BAD);
        CHECKS.leavesBusyAlone("lands(0, LEAST, 0)", x -> x.lands(0, LEAST, 0), BAD);
        CHECKS.leavesBusyAlone("lands(0, MOST, 0)", x -> x.lands(0, MOST, 0), BAD);
    }

    @Says("BAD: place, luck (0 .. 2)")
    private static void promise9LuckOutside0To2IsBad() {
        CHECKS.leavesBusyAlone("lands(0, 0, -1)", x -> x.lands(0, 0, -1), BAD);
        CHECKS.leavesBusyAlone("lands(0, 0, 3)", x -> x.lands(0, 0, 3), BAD);
        CHECKS.leavesBusyAlone("lands(0, 0, LEAST)", x -> x.lands(0, 0, LEAST), BAD);
        CHECKS.leavesBusyAlone("lands(0, 0, MOST)", x -> x.lands(0, 0, MOST), BAD);
    }

    @Says("Of several what is told first.")
    private static void promise9UnknownIsToldAheadOfBad() {
        due("lands(2, 8, 0)", Checks.busy().lands(2, 8, 0), UNKNOWN);
        due("lands(-1, 0, 3)", Checks.busy().lands(-1, 0, 3), UNKNOWN);
    }

    /** Where throws at places 0 .. 7 of the only thrower land, by that luck. */
    private static void lands(String text, int luck, int... due) {
        CoconutShies x = Checks.fairOf(text);
        for (int place = 0; place <= 7; place++) {
            due("lands(0, " + place + ", " + luck + ") in " + text, x.lands(0, place, luck), due[place]);
        }
    }

    @Says({"7 in a row.", "by LUCK (0 straight, 1 over, 2 under), LANDS at that PLACE"})
    private static void promise9StraightLandsAtEachPlace() {
        lands("S10T310", 0, 0, 1, 2, 3, 4, 5, 6, 7);
    }

    @Says({"8: OFF", "It is OFF (8), if that is no PLACE."})
    private static void promise9OverTheUpperEndIsOff() {
        lands("S10T010", 1, 0, 1, 2, 3, 4, 5, 6, 7);
        lands("S10T110", 1, 1, 2, 3, 4, 5, 6, 7, 8);
        lands("S10T310", 1, 3, 4, 5, 6, 7, 8, 8, 8);
    }

    @Says({"8: OFF", "It is OFF (8), if that is no PLACE."})
    private static void promise9UnderTheLowerEndIsOff() {
        lands("S10T010", 2, 0, 1, 2, 3, 4, 5, 6, 7);
        lands("S10T110", 2, 8, 0, 1, 2, 3, 4, 5, 6);
        lands("S10T310", 2, 8, 8, 8, 0, 1, 2, 3, 4);
    }

    @Says("(NAVVY: 1 more; a LEFT one has over and under for one another)")
    private static void promise9ANavvyIs1More() {
        lands("S10T013", 0, 0, 1, 2, 3, 4, 5, 6, 7);
        lands("S10T013", 1, 1, 2, 3, 4, 5, 6, 7, 8);
        lands("S10T313", 1, 4, 5, 6, 7, 8, 8, 8, 8);
        lands("S10T313", 2, 8, 8, 8, 8, 0, 1, 2, 3);
    }

    @Says("a LEFT one has over and under for one another")
    private static void promise9ALeftOneHasOverForUnder() {
        lands("S10T312", 0, 0, 1, 2, 3, 4, 5, 6, 7);
        lands("S10T312", 1, 8, 8, 8, 0, 1, 2, 3, 4);
        lands("S10T312", 2, 3, 4, 5, 6, 7, 8, 8, 8);
    }

    @Says("and one place more on or back by WIND (but for a CURATE).")
    private static void promise9WindBlowsOffTheEnds() {
        lands("S00T110", 0, 8, 0, 1, 2, 3, 4, 5, 6);
        lands("S20T110", 0, 1, 2, 3, 4, 5, 6, 7, 8);
        lands("S20T110", 1, 2, 3, 4, 5, 6, 7, 8, 8);
        lands("S00T110", 2, 8, 8, 0, 1, 2, 3, 4, 5);
        lands("S20T312", 1, 8, 8, 0, 1, 2, 3, 4, 5);
    }

    @Says("It is OFF (8), if that is no PLACE.")
    private static void promise9OnlyWhereItLandsIsLookedAt() {
        lands("S00T110", 1, 0, 1, 2, 3, 4, 5, 6, 7);
        lands("S20T110", 2, 0, 1, 2, 3, 4, 5, 6, 7);
    }

    @Says("(but for a CURATE)")
    private static void promise9NoWindBlowsForACurate() {
        lands("S00T111", 0, 0, 1, 2, 3, 4, 5, 6, 7);
        lands("S20T111", 0, 0, 1, 2, 3, 4, 5, 6, 7);
        lands("S20T111", 1, 1, 2, 3, 4, 5, 6, 7, 8);
        lands("S00T111", 2, 8, 0, 1, 2, 3, 4, 5, 6);
    }

    @Says("Where a THROW LANDS")
    private static void promise9LandsChangesNothing() {
        CHECKS.leavesBusyAlone("lands(0, 7, 1)", x -> x.lands(0, 7, 1), 8);
        CHECKS.leavesBusyAlone("lands(1, 2, 0)", x -> x.lands(1, 2, 0), 2);
        due("lands(0, 0, 0), not paid for", Checks.fairOf("S10T010").lands(0, 0, 0), 0);
    }
}

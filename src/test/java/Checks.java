import java.util.function.Supplier;
import java.util.function.ToLongFunction;

/** What the tests share: texts written to an object, answers compared, a count of wrong ones. */
final class Checks {
    private static final int LATE = -3;
    /** Four husks, one of each kind, two throwers, two laws: what busy() starts from. */
    static final String BUSY = "S05H030H151H292H363T140T291L010L231";

    private String within = "";
    private int made = 0;
    private int wrong = 0;

    /** From now on answers are asked for within that test. */
    void within(String test) {
        within = test + ": ";
    }

    int made() {
        return made;
    }

    void due(String call, long got, long want) {
        made++;
        if (got != want) {
            wrong(call + " answered " + got + ", due is " + want);
        }
    }

    void wrong(String what) {
        wrong++;
        System.out.println(within + what);
    }

    /** Ends the program with 1 if an answer was wrong. */
    void end(String name) {
        System.out.println(name + ": " + made + " answers, " + wrong + " wrong");
        if (wrong != 0 || made == 0) {
            System.exit(1);
        }
    }

    static void tell(CoconutShies shies, String text) {
        shies.wipe();
        for (int i = 0; i < text.length(); i++) {
            shies.write(text.charAt(i));
        }
    }

    /** A new object whose fair is that text; it must be one. */
    static CoconutShies fairOf(String text) {
        CoconutShies shies = new CoconutShies();
        tell(shies, text);
        if (shies.fair() < 0) {
            throw new IllegalArgumentException("no fair: " + text);
        }
        return shies;
    }

    /**
     * An object at which something of everything was done: seven acts, both slots kept, two seen, a
     * seed. WIND is 2, 5 are paid for; husk 0 is down, 1 and 2 have a nail, 2 is LOOSE by 9 of 12,
     * 3 is HALVED.
     */
    static CoconutShies busy() {
        CoconutShies shies = fairOf(BUSY);
        shies.toss(1, 3, 0);
        shies.toss(1, 0, 0);
        shies.keep(0);
        shies.nail(2);
        shies.blow(2);
        shies.keep(1);
        shies.pay();
        shies.set(1);
        shies.toss(1, 2, 0);
        shies.see(0, 4, 0);
        shies.see(1, 9, 1);
        shies.seed(77);
        return shies;
    }

    /** All that can be asked of the state without a change, as one text. */
    static String stateOf(CoconutShies shies) {
        StringBuilder all = new StringBuilder();
        for (int what = 0; what <= 8; what++) {
            all.append(shies.about(what)).append(' ');
        }
        for (int husk = 0; husk < shies.about(0); husk++) {
            for (int what = 0; what <= 8; what++) {
                all.append(shies.husk(husk, what)).append(what == 8 ? ';' : ' ');
            }
        }
        for (int thrower = 0; thrower < shies.about(1); thrower++) {
            for (int what = 0; what <= 3; what++) {
                all.append(shies.thrower(thrower, what)).append(what == 3 ? ';' : ' ');
            }
        }
        return all.toString();
    }

    void sameState(String what, CoconutShies shies, String before) {
        same(what, stateOf(shies), before);
    }

    private void same(String what, String now, String before) {
        made++;
        if (!now.equals(before)) {
            wrong(what + ": the state is " + now + ", due is " + before);
        }
    }

    /** Only what acts change. */
    private static String shortStateOf(CoconutShies shies) {
        StringBuilder all = new StringBuilder();
        for (int what = 3; what <= 5; what++) {
            all.append(shies.about(what)).append(' ');
        }
        for (int husk = 0; husk < shies.about(0); husk++) {
            for (int what = 4; what <= 7; what++) {
                all.append(shies.husk(husk, what)).append(what == 7 ? ';' : ' ');
            }
        }
        return all.toString();
    }

    /** All that an object holds, hidden things too; it is used up by it. */
    static String drained(CoconutShies shies) {
        StringBuilder all = new StringBuilder(stateOf(shies));
        for (int husk = 0; husk < shies.about(0); husk++) {
            all.append(" holds ").append(shies.holds(husk));
        }
        all.append(" seed ").append(shies.seed(0));
        int left = shies.undo();
        while (left != LATE) {
            all.append(" undo ").append(left).append(' ').append(shortStateOf(shies));
            left = shies.undo();
        }
        for (int slot = 0; slot <= 1; slot++) {
            all.append(" again ").append(shies.again(slot)).append(' ').append(shortStateOf(shies));
        }
        all.append(" fault ").append(shies.fault()).append(" fair ").append(shies.fair());
        return all.append(' ').append(stateOf(shies)).toString();
    }

    /** The call answers that, and changes nothing: a twin made alike, not so called, holds the same. */
    void leavesAlone(String call, Supplier<CoconutShies> maker, ToLongFunction<CoconutShies> ask, long want) {
        CoconutShies asked = maker.get();
        due(call, ask.applyAsLong(asked), want);
        same(call + " changes nothing", drained(asked), drained(maker.get()));
    }

    void leavesBusyAlone(String call, ToLongFunction<CoconutShies> ask, long want) {
        leavesAlone(call, Checks::busy, ask, want);
    }
}

/** What the tests share: texts written to an object, answers compared, a count of wrong ones. */
final class Checks {
    private int made = 0;
    private int wrong = 0;

    void due(String call, long got, long want) {
        made++;
        if (got != want) {
            wrong++;
            System.out.println(call + " answered " + got + ", due is " + want);
        }
    }

    /** Ends the program with 1 if an answer was wrong. */
    void end(String name) {
        System.out.println(name + ": " + made + " answers, " + wrong + " wrong");
        if (wrong != 0 || made == 0) {
            System.exit(1);
        }
    }

    static void tell(CoconutShies shies, String text) {
        shies.wipe();
        for (int i = 0; i < text.length(); i++) {
            shies.write(text.charAt(i));
        }
    }

    /** A new object whose fair is that text; it must be one. */
    static CoconutShies fairOf(String text) {
        CoconutShies shies = new CoconutShies();
        tell(shies, text);
        if (shies.fair() < 0) {
            throw new IllegalArgumentException("no fair: " + text);
        }
        return shies;
    }

    /** All that can be asked of the state without a change, as one text. */
    static String stateOf(CoconutShies shies) {
        StringBuilder all = new StringBuilder();
        for (int what = 0; what <= 8; what++) {
            all.append(shies.about(what)).append(' ');
        }
        for (int husk = 0; husk < shies.about(0); husk++) {
            for (int what = 0; what <= 8; what++) {
                all.append(shies.husk(husk, what)).append(what == 8 ? ';' : ' ');
            }
        }
        for (int thrower = 0; thrower < shies.about(1); thrower++) {
            for (int what = 0; what <= 3; what++) {
                all.append(shies.thrower(thrower, what)).append(what == 3 ? ';' : ' ');
            }
        }
        return all.toString();
    }

    void sameState(String what, CoconutShies shies, String before) {
        String now = stateOf(shies);
        made++;
        if (!now.equals(before)) {
            wrong++;
            System.out.println(what + ": the state is " + now + ", due is " + before);
        }
    }
}

/** Counts and prints the answers that are not as due; a test ends with exit code 1 if there was one. */
final class Due {
    static final int BAD = -1, FULL = -2, FINDING = -3, STATE = -4, NONE = -9;
    static final int NOTHING = 1, BEYOND = 2, UNLIKE = 3, NOUGHT = 4, SIZE = 5;

    private static int wrong = 0;
    private static int seen = 0;

    private Due() {
    }

    static void is(String call, long got, long want) {
        seen++;
        if (got != want) {
            wrong++;
            System.out.println(call + " answered " + got + ", due is " + want);
        }
    }

    /** A call that answers 1 and tells by asked(). */
    static void tells(SluiceLevels x, String call, long got, long want) {
        is(call, got, 1);
        is(call + ": asked()", x.asked(), want);
    }

    /** A call that answers something and tells more by asked(). */
    static void both(SluiceLevels x, String call, long got, long want, long asked) {
        is(call, got, want);
        is(call + ": asked()", x.asked(), asked);
    }

    static void part(SluiceLevels x, String call, long got, long upper, long lower) {
        is(call, got, 1);
        is(call + ": upper()", x.upper(), upper);
        is(call + ": lower()", x.lower(), lower);
    }

    /** A call refused with a FINDING: told by finding(), counted by findings(). */
    static void finds(SluiceLevels x, String call, int before, long got, int finding) {
        is(call, got, FINDING);
        is(call + ": finding()", x.finding(), finding);
        is(call + ": findings(" + finding + ")", x.findings(finding), before + 1);
    }

    static SluiceLevels with(String bridge) {
        SluiceLevels x = new SluiceLevels();
        write(x, 0, bridge);
        is("bridge of " + bridge, x.bridge(0), gatesOf(bridge));
        return x;
    }

    static void write(SluiceLevels x, int t, String text) {
        is("text for " + text, x.text(t, text.length()), text.length());
        for (int i = 0; i < text.length(); i++) {
            x.put(t, i, text.charAt(i));
        }
    }

    static void fill(SluiceLevels x, int r, int... ints) {
        is("row of " + ints.length, x.row(r, ints.length), ints.length);
        for (int i = 0; i < ints.length; i++) {
            x.lay(r, i, ints[i]);
        }
    }

    private static int gatesOf(String bridge) {
        int gates = 0;
        for (char c : bridge.toCharArray()) {
            if ("gspwle".indexOf(c) >= 0) {
                gates++;
            }
        }
        return gates;
    }

    static void end() {
        System.out.println(wrong == 0 ? seen + " answers, all as due" : wrong + " of " + seen + " answers are not as due");
        if (wrong != 0) {
            System.exit(1);
        }
    }
}

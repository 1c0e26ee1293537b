import java.util.function.IntSupplier;

/** Counts and prints the answers that are not as due; a test ends with exit code 1 if there was one. */
final class Due {
    static final int BAD = -1, FULL = -2, FINDING = -3, STATE = -4, NONE = -9;
    static final int NOTHING = 1, BEYOND = 2, UNLIKE = 3, NOUGHT = 4, SIZE = 5;

    private static int wrong = 0;
    private static int seen = 0;
    private static int seenAhead = -1;
    private static String part = "";

    private Due() {
    }

    /** What is printed tells this part; a part in which nothing is looked at is wrong. */
    static void begin(String what) {
        if (seen == seenAhead) {
            wrong++;
            System.out.println(part + ": nothing is looked at");
        }
        part = what;
        seenAhead = seen;
    }

    static void is(String call, long got, long want) {
        seen++;
        if (got != want) {
            wrong++;
            System.out.println(part + (part.isEmpty() ? "" : ": ") + call + " answered " + got + ", due is " + want);
        }
    }

    /** A call that answers 1 and tells by asked(). */
    static void tells(SluiceLevels x, String call, long got, long want) {
        is(call, got, 1);
        is(call + ": asked()", x.asked(), want);
    }

    /** A call that answers something and tells more by asked(). */
    static void both(SluiceLevels x, String call, long got, long want, long asked) {
        is(call, got, want);
        is(call + ": asked()", x.asked(), asked);
    }

    static void part(SluiceLevels x, String call, long got, long upper, long lower) {
        is(call, got, 1);
        is(call + ": upper()", x.upper(), upper);
        is(call + ": lower()", x.lower(), lower);
    }

    /** A call refused with a FINDING: told by finding(), counted by findings(). */
    static void finds(SluiceLevels x, String call, int before, long got, int finding) {
        is(call, got, FINDING);
        is(call + ": finding()", x.finding(), finding);
        is(call + ": findings(" + finding + ")", x.findings(finding), before + 1);
    }

    private static final String[] SEEN = {"digest()", "asked()", "upper()", "lower()", "finding()",
        "findings(1)", "findings(2)", "findings(3)", "findings(4)", "findings(5)"};

    private static long[] look(SluiceLevels x) {
        return new long[] {x.digest(), x.asked(), x.upper(), x.lower(), x.finding(),
            x.findings(1), x.findings(2), x.findings(3), x.findings(4), x.findings(5)};
    }

    private static void looksLike(SluiceLevels x, String call, long[] want) {
        long[] got = look(x);
        for (int k = 0; k < SEEN.length; k++) {
            is(call + ", then " + SEEN[k], got[k], want[k]);
        }
    }

    /** A call that is refused without a FINDING, or answered NONE: nothing becomes other. Takes 21 calls. */
    static void refuses(SluiceLevels x, String call, IntSupplier made, int want) {
        long[] ahead = look(x);
        is(call, made.getAsInt(), want);
        looksLike(x, call, ahead);
    }

    /** A call that is refused with a FINDING: nothing becomes other but that. Takes 21 calls. */
    static void finds(SluiceLevels x, String call, IntSupplier made, int finding) {
        long[] ahead = look(x);
        is(call, made.getAsInt(), FINDING);
        ahead[4] = finding;
        ahead[4 + finding]++;
        looksLike(x, call, ahead);
    }

    /** A call that only looks, or tries aside: all but what it tells is as it was. */
    static void aside(SluiceLevels x, String call, IntSupplier made) {
        long ahead = x.digest();
        is(call + " is not refused", made.getAsInt() >= 0 ? 1 : 0, 1);
        is(call + ", then digest()", x.digest(), ahead);
    }

    static void levels(SluiceLevels x, String when, int... want) {
        for (int b = 0; b < want.length; b++) {
            tells(x, when + ": basin(" + b + ")", x.basin(b), want[b]);
        }
    }

    static void holds(SluiceLevels x, int r, int... ints) {
        for (int i = 0; i < ints.length; i++) {
            tells(x, "row " + r + " place " + i, x.at(r, i), ints[i]);
        }
    }

    static SluiceLevels with(String bridge) {
        SluiceLevels x = new SluiceLevels();
        write(x, 0, bridge);
        is("bridge of " + bridge, x.bridge(0), gatesOf(bridge));
        return x;
    }

    static void write(SluiceLevels x, int t, String text) {
        is("text for " + text, x.text(t, text.length()), text.length());
        for (int i = 0; i < text.length(); i++) {
            x.put(t, i, text.charAt(i));
        }
    }

    static void fill(SluiceLevels x, int r, int... ints) {
        is("row of " + ints.length, x.row(r, ints.length), ints.length);
        for (int i = 0; i < ints.length; i++) {
            x.lay(r, i, ints[i]);
        }
    }

    private static int gatesOf(String bridge) {
        int gates = 0;
        for (char c : bridge.toCharArray()) {
            if ("gspwle".indexOf(c) >= 0) {
                gates++;
            }
        }
        return gates;
    }

    static void end() {
        begin("");
        System.out.println(wrong == 0 ? seen + " answers, all as due" : wrong + " of " + seen + " answers are not as due");
        if (wrong != 0) {
            System.exit(1);
        }
    }
}

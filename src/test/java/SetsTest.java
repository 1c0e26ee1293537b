/** Promises 32 and 33: whose widths. */
public final class SetsTest {
    public static void main(String[] args) {
        refusals();
        sets();
        surely();
        Due.end();
    }

    private static void refusals() {
        SluiceLevels x = new SluiceLevels();
        Due.is("sets(0) of none", x.sets(0), Due.STATE);
        Due.is("surely(0) of none", x.surely(0), Due.STATE);
        Due.is("sets(-1): BAD first", x.sets(-1), Due.BAD);
        Due.is("surely(55): BAD first", x.surely(55), Due.BAD);
        x = Due.with("h00g9100s9100p9100w9000l9100e9100");
        Due.is("sets(-1)", x.sets(-1), Due.BAD);
        Due.is("sets(55)", x.sets(55), Due.BAD);
        Due.is("surely(-1)", x.surely(-1), Due.BAD);
        Due.is("surely(55)", x.surely(55), Due.BAD);
        Due.finds(x, "surely(53)", 0, x.surely(53), Due.NOUGHT);
        setsAre(x, 54, 1, 63);
        setsAre(x, 53, 0, Due.NONE);
        setsAre(x, 27, 20, 7);
        Due.both(x, "surely(54)", x.surely(54), 63, 0);
    }

    private static void sets() {
        SluiceLevels x = Due.with("h40g5110s3025p2107w4030l6119e1002");
        setsAre(x, 0, 1, 0);
        setsAre(x, 5, 3, 1);
        setsAre(x, 12, 5, 11);
        setsAre(x, 21, 1, 63);
        setsAre(x, 22, 0, Due.NONE);
    }

    private static void setsAre(SluiceLevels x, int v, int many, int least) {
        Due.part(x, "sets(" + v + ")", x.sets(v), many, 1);
        Due.is("the least of " + v, x.asked(), least);
    }

    private static void surely() {
        SluiceLevels x = Due.with("h40g5110w3025p2107");
        // 5: GATE 0 alone or both others. 8: GATES 0, 1. 7: GATES 0, 2.
        Due.both(x, "surely(5)", x.surely(5), 0, 0);
        Due.both(x, "surely(8)", x.surely(8), 3, 4);
        Due.both(x, "surely(7)", x.surely(7), 5, 2);
        Due.both(x, "surely(0)", x.surely(0), 0, 7);
        Due.both(x, "surely(10)", x.surely(10), 7, 0);
        Due.finds(x, "surely(1)", 0, x.surely(1), Due.NOUGHT);
        Due.is("asked() stays", x.asked(), 0);
        Due.is("surely() tells no upper()", x.upper(), 0);
    }
}

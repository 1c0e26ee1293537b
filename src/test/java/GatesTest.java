/** Promises 12 to 14 and 22: basins, gates, what they mark, what flows. */
public final class GatesTest {
    private static final String ALL = "h40g5110s3125p2107w4030l6119e1102";

    public static void main(String[] args) {
        basin();
        gate();
        gateFlows();
        mark();
        markInTurns();
        flowsOfAGate();
        flowsOfASluice();
        flowsOfAPump();
        flowsOfAWeir();
        flowsOfALock();
        flowsOfAnEngine();
        flowsRefused();
        Due.end();
    }

    private static void basin() {
        SluiceLevels x = new SluiceLevels();
        Due.is("basin(0) of none", x.basin(0), Due.STATE);
        Due.is("basin(-1) of none", x.basin(-1), Due.STATE);
        x = Due.with("h05g1160");
        Due.tells(x, "basin(0)", x.basin(0), 5);
        Due.tells(x, "basin(1)", x.basin(1), 60);
        Due.is("basin(2)", x.basin(2), Due.BAD);
        Due.is("basin(-1)", x.basin(-1), Due.BAD);
        Due.is("asked() stays", x.asked(), 60);
    }

    private static void gate() {
        SluiceLevels x = new SluiceLevels();
        Due.is("gate of none", x.gate(0, 0), Due.BAD);
        x = Due.with(ALL);
        int[] widths = {5, 3, 2, 4, 6, 1};
        for (int i = 0; i < 6; i++) {
            Due.tells(x, "kind " + i, x.gate(i, 0), i);
            Due.tells(x, "width " + i, x.gate(i, 1), widths[i]);
            Due.tells(x, "open " + i, x.gate(i, 2), 1);
        }
        Due.is("gate(6, 0)", x.gate(6, 0), Due.BAD);
        Due.is("gate(-1, 0)", x.gate(-1, 0), Due.BAD);
        Due.is("gate(0, 4)", x.gate(0, 4), Due.BAD);
        Due.is("gate(0, -1)", x.gate(0, -1), Due.BAD);
        x.wind(1);
        Due.tells(x, "shut", x.gate(1, 2), 0);
    }

    private static void gateFlows() {
        SluiceLevels x = Due.with(ALL);
        int[] through = {5, 0, -2, -4, 5, -2};
        for (int i = 0; i < 6; i++) {
            Due.tells(x, "through " + i, x.gate(i, 3), through[i]);
        }
        x.wind(0);
        Due.tells(x, "none, shut", x.gate(0, 3), 0);
        x = Due.with("h40w9020");
        Due.tells(x, "a WEIR told as shut is OPEN", x.gate(0, 2), 1);
        Due.tells(x, "half of 15", x.gate(0, 3), 7);
    }

    private static void mark() {
        SluiceLevels x = Due.with(ALL);
        int[][] told = {
            {-3, -3, -3, -3, -3}, {3, -3, -3, -3, -3}, {-3, 35, -3, -3, -3},
            {-3, -3, 23, -3, -3}, {0, -3, -3, 1, -3}, {-3, 41, -3, -3, 0}};
        for (int i = 0; i < 6; i++) {
            for (int kind = 1; kind <= 5; kind++) {
                Due.is("mark(" + i + ", " + kind + ")", x.mark(i, kind), told[i][kind - 1]);
            }
        }
        Due.is("findings UNLIKE", x.findings(Due.UNLIKE), 23);
        Due.is("finding UNLIKE", x.finding(), Due.UNLIKE);
        Due.is("mark(0, 0)", x.mark(0, 0), Due.BAD);
        Due.is("mark(0, 6)", x.mark(0, 6), Due.BAD);
        Due.is("mark(0, -1)", x.mark(0, -1), Due.BAD);
        Due.is("mark(6, 1)", x.mark(6, 1), Due.BAD);
        Due.is("mark(-1, 1)", x.mark(-1, 1), Due.BAD);
        Due.is("mark of none", new SluiceLevels().mark(0, 1), Due.BAD);
        Due.is("mark tells nothing by asked()", x.asked(), 0);
    }

    private static void markInTurns() {
        SluiceLevels x = Due.with("h40l6008s2050e1000");
        int[] quiet = {1, 0, 1, 0, 1, 0};
        int[] twice = {0, 2, 1, 0, 2, 1};
        int[] less = {0, 6, 0, 6, 0, 6};
        for (int turn = 0; turn < 6; turn++) {
            Due.is("LOCK, shut, turn " + turn, x.mark(0, 4), quiet[turn]);
            Due.is("ENGINE, shut, turn " + turn, x.mark(2, 5), twice[turn]);
            Due.is("LOCK as SLUICE, shut, turn " + turn, x.mark(0, 1), less[turn]);
            Due.is("SLUICE that would rise, shut", x.mark(1, 1), 2);
            x.turn();
        }
    }

    private static void flowsOfAGate() {
        SluiceLevels x = Due.with("h00g5000");
        Due.is("even", x.flows(0, 30, 30, 0), 0);
        Due.is("1 apart", x.flows(0, 31, 30, 0), 0);
        Due.is("1 apart, up", x.flows(0, 30, 31, 0), 0);
        Due.is("3 apart", x.flows(0, 33, 30, 0), 1);
        Due.is("3 apart, up", x.flows(0, 30, 33, 0), -1);
        Due.is("9 apart", x.flows(0, 39, 30, 1), 4);
        Due.is("10 apart", x.flows(0, 40, 30, 1), 5);
        Due.is("60 apart", x.flows(0, 60, 0, 99), 5);
        Due.is("60 apart, up", x.flows(0, 0, 60, 99), -5);
    }

    private static void flowsOfASluice() {
        SluiceLevels x = Due.with("h00s5000");
        Due.is("down", x.flows(0, 37, 30, 1), 3);
        Due.is("down, much", x.flows(0, 60, 0, 1), 5);
        Due.is("not up", x.flows(0, 0, 60, 0), 0);
    }

    private static void flowsOfAPump() {
        SluiceLevels x = Due.with("h00p5000");
        Due.is("up", x.flows(0, 10, 10, 1), -5);
        Due.is("up the hill", x.flows(0, 50, 10, 3), -5);
        Due.is("no more than there is", x.flows(0, 50, 3, 0), -3);
        Due.is("none is there", x.flows(0, 50, 0, 0), 0);
        Due.is("no more than there is room for", x.flows(0, 58, 30, 0), -2);
        Due.is("no room", x.flows(0, 60, 60, 0), 0);
    }

    private static void flowsOfAWeir() {
        SluiceLevels x = Due.with("h00w5000");
        Due.is("5 apart", x.flows(0, 15, 10, 0), 0);
        Due.is("6 apart", x.flows(0, 16, 10, 0), 0);
        Due.is("7 apart", x.flows(0, 17, 10, 0), 1);
        Due.is("7 apart, up", x.flows(0, 10, 17, 0), -1);
        Due.is("3 apart, up", x.flows(0, 10, 13, 0), 0);
        Due.is("14 apart", x.flows(0, 24, 10, 0), 4);
        Due.is("60 apart", x.flows(0, 0, 60, 0), -5);
    }

    private static void flowsOfALock() {
        SluiceLevels x = Due.with("h00l5000");
        Due.is("even turn", x.flows(0, 20, 10, 98), 5);
        Due.is("odd turn", x.flows(0, 20, 10, 99), 0);
        Due.is("not up", x.flows(0, 10, 20, 0), 0);
        Due.is("neither way", x.flows(0, 10, 20, 1), 0);
    }

    private static void flowsOfAnEngine() {
        SluiceLevels x = Due.with("h00e4000");
        Due.is("turn 0", x.flows(0, 20, 10, 0), -8);
        Due.is("turn 1", x.flows(0, 20, 10, 1), -4);
        Due.is("turn 2", x.flows(0, 20, 10, 2), -4);
        Due.is("turn 99", x.flows(0, 20, 10, 99), -8);
        Due.is("turn 98", x.flows(0, 20, 10, 98), -4);
        Due.is("no more than there is", x.flows(0, 20, 5, 3), -5);
        Due.is("no more than there is room for", x.flows(0, 53, 30, 3), -7);
    }

    private static void flowsRefused() {
        SluiceLevels x = Due.with("h00g5000");
        Due.is("flows(1)", x.flows(1, 0, 0, 0), Due.BAD);
        Due.is("flows(-1)", x.flows(-1, 0, 0, 0), Due.BAD);
        Due.is("ahead -1", x.flows(0, -1, 0, 0), Due.BAD);
        Due.is("ahead 61", x.flows(0, 61, 0, 0), Due.BAD);
        Due.is("behind -1", x.flows(0, 0, -1, 0), Due.BAD);
        Due.is("behind 61", x.flows(0, 0, 61, 0), Due.BAD);
        Due.is("number -1", x.flows(0, 0, 0, -1), Due.BAD);
        Due.is("number 100", x.flows(0, 0, 0, 100), Due.BAD);
        Due.is("flows of none", new SluiceLevels().flows(0, 0, 0, 0), Due.BAD);
    }
}

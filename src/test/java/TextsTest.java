/** Promises 8 to 11: texts, their faults, bridges by them. */
public final class TextsTest {
    public static void main(String[] args) {
        text();
        put();
        noFault();
        faults();
        faultRefusals();
        nothingIsLeft();
        bridge();
        bridgeAnew();
        Due.end();
    }

    private static void text() {
        SluiceLevels x = new SluiceLevels();
        Due.is("text(0, 60)", x.text(0, 60), 60);
        Due.is("text(3, 0)", x.text(3, 0), 0);
        Due.is("count(9)", x.count(9), 2);
        Due.is("a blank", x.put(0, 59, 65), 1032);
        Due.is("text(0, 61)", x.text(0, 61), Due.BAD);
        Due.is("as it was", x.put(0, 59, 66), 1065);
        Due.is("anew", x.text(0, 60), 60);
        Due.is("a blank again", x.put(0, 59, 65), 1032);
        Due.is("text(-1, 1)", x.text(-1, 1), Due.BAD);
        Due.is("text(4, 1)", x.text(4, 1), Due.BAD);
        Due.is("text(4, -1)", x.text(4, -1), Due.BAD);
        Due.finds(x, "text(1, -1)", 0, x.text(1, -1), Due.SIZE);
        Due.is("count(9) stays", x.count(9), 2);
    }

    private static void put() {
        SluiceLevels x = new SluiceLevels();
        Due.finds(x, "put in nothing", 0, x.put(1, 0, 1), Due.NOTHING);
        x.text(1, 2);
        Due.is("put 127", x.put(1, 0, 127), 1032);
        Due.is("put 128", x.put(1, 0, 128), 1127);
        Due.is("put -129", x.put(1, 0, -129), 1000 - 128);
        Due.is("put 255", x.put(1, 0, 255), 1127);
        Due.is("put 256 + 104", x.put(1, 0, 360), 999);
        Due.is("put 0", x.put(1, 0, 0), 1104);
        Due.finds(x, "put at size", 0, x.put(1, 2, 1), Due.BEYOND);
        Due.finds(x, "put below 0", 1, x.put(1, -1, 1), Due.BEYOND);
        Due.is("put(4)", x.put(4, 0, 1), Due.BAD);
        Due.is("put(-1)", x.put(-1, 0, 1), Due.BAD);
        Due.is("put tells nothing by asked()", x.asked(), 0);
    }

    private static void noFault() {
        faultOf("h40g5110", Due.NONE);
        faultOf("  h00   w9060  ", Due.NONE);
        faultOf("h60s1000p9160w5010l3159e2000g1000", Due.NONE);
        faultOf("h10 g1110 s1110 p1110 w1110 l1110 e1110" + " ".repeat(21), Due.NONE);
    }

    private static void faults() {
        faultOf("", 0);
        faultOf("    ", 4);
        faultOf("H40g5110", 0);
        faultOf(" x40g5110", 1);
        faultOf("h", 1);
        faultOf("h4", 2);
        faultOf("h7", 2);
        faultOf("h40", 3);
        faultOf("h40  ", 5);
        faultOf("h 40g5110", 1);
        faultOf("h4 0g5110", 2);
        faultOf("h61g5110", 1);
        faultOf("h99g5110", 1);
        faultOf("h7xg5110", 2);
        faultOf("h4:g5110", 2);
        faultOf("h4/g5110", 2);
        faultOf("hx7g5110", 1);
        faultOf("h40h40", 3);
        faultOf("h40G5110", 3);
        faultOf("h40g0110", 4);
        faultOf("h40g 5110", 4);
        faultOf("h40g5210", 5);
        faultOf("h40g5 110", 5);
        faultOf("h40g51x0", 6);
        faultOf("h40g5161", 6);
        faultOf("h40g511x", 7);
        faultOf("h40g511", 7);
        faultOf("h40g5", 5);
        faultOf("h40g", 4);
        faultOf("h40g51100", 8);
        faultOf("h40g5110 g5199", 12);
        faultOf("h40 g1110 g1110 g1110 g1110 g1110 g1110 g1110", 40);
        faultOf("h40 g1110 g1110 g1110 g1110 g1110 g1110x", 39);
    }

    private static void faultOf(String text, int want) {
        SluiceLevels x = new SluiceLevels();
        Due.write(x, 2, text);
        Due.is("fault of '" + text + "'", x.fault(2), want);
        Due.is("bridge of '" + text + "' is refused", x.bridge(2) < 0 ? 1 : 0, want == Due.NONE ? 0 : 1);
    }

    private static void faultRefusals() {
        SluiceLevels x = new SluiceLevels();
        Due.finds(x, "fault of nothing", 0, x.fault(3), Due.NOTHING);
        Due.is("fault(-1)", x.fault(-1), Due.BAD);
        Due.is("fault(4)", x.fault(4), Due.BAD);
        x.text(0, 1);
        x.put(0, 0, 104 - 256);
        Due.is("a byte that is h when cut", x.fault(0), 1);
        x.put(0, 0, -104);
        Due.is("a byte below 0", x.fault(0), 0);
    }

    /** What stood in a longer TEXT, or was tried aside, has no part in a new one. */
    private static void nothingIsLeft() {
        SluiceLevels x = Due.with("h40g5110s5110w5010");
        Due.is("text cut short", x.text(0, 3), 3);
        x.put(0, 0, 'h');
        x.put(0, 1, '4');
        x.put(0, 2, '0');
        Due.is("no GATES behind the end", x.fault(0), 3);
        Due.is("no BRIDGE", x.bridge(0), Due.STATE);
        Due.write(x, 0, "h4");
        Due.is("no figure behind the end", x.fault(0), 2);
        x.level(0, 5);
        Due.write(x, 0, "h40g5010s5010");
        Due.is("bridge(0)", x.bridge(0), 2);
        Due.is("all are shut", x.count(3), 0);
        Due.is("TURN 0", x.count(1), 0);
        Due.is("two GATES", x.gate(2, 0), Due.BAD);
    }

    private static void bridge() {
        SluiceLevels x = new SluiceLevels();
        Due.is("bridge(-1)", x.bridge(-1), Due.BAD);
        Due.is("bridge(4)", x.bridge(4), Due.BAD);
        Due.finds(x, "bridge by nothing", 0, x.bridge(1), Due.NOTHING);
        Due.write(x, 1, " h07 e9160l1003");
        Due.is("bridge(1)", x.bridge(1), 2);
        Due.tells(x, "basin(0)", x.basin(0), 7);
        Due.tells(x, "basin(1)", x.basin(1), 60);
        Due.tells(x, "basin(2)", x.basin(2), 3);
        Due.tells(x, "gate(0, 0)", x.gate(0, 0), 5);
        Due.tells(x, "gate(0, 1)", x.gate(0, 1), 9);
        Due.tells(x, "gate(0, 2)", x.gate(0, 2), 1);
        Due.tells(x, "gate(1, 0)", x.gate(1, 0), 4);
        Due.tells(x, "gate(1, 1)", x.gate(1, 1), 1);
        Due.tells(x, "gate(1, 2)", x.gate(1, 2), 0);
        Due.write(x, 1, "h61g1100");
        Due.is("bridge by a fault", x.bridge(1), Due.STATE);
        Due.tells(x, "basin(0) as it was", x.basin(0), 7);
        Due.is("gates as they were", x.count(0), 2);
    }

    private static void bridgeAnew() {
        SluiceLevels x = Due.with("h40g5110s5110p5110w5110l5110e5110");
        x.turn();
        x.keep(0);
        x.keep(2);
        x.turn();
        Due.write(x, 1, "h20w3130");
        Due.is("kept ahead", x.count(10), 2);
        Due.is("anew", x.bridge(1), 1);
        Due.is("TURN 0", x.count(1), 0);
        Due.is("no DEEDS", x.count(2), 0);
        Due.is("OPEN", x.count(3), 1);
        Due.is("LEVELS", x.count(4), 50);
        Due.is("kept BRIDGES go", x.count(10), 0);
        Due.finds(x, "on(0)", 0, x.on(0), Due.NOTHING);
        Due.is("nothing to undo", x.undo(1), Due.BAD);
        Due.is("the old GATES are gone", x.gate(1, 0), Due.BAD);
        Due.write(x, 1, "h2");
        Due.is("refused", x.bridge(1), Due.STATE);
        Due.is("the text's change changes no BRIDGE", x.count(4), 50);
    }
}

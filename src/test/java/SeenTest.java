/** Promises 27 to 31: by how a basin stood. */
public final class SeenTest {
    public static void main(String[] args) {
        refusals();
        orderOfRefusals();
        opens();
        sure();
        next();
        widths();
        kinds();
        kindsOfAWeir();
        Due.end();
    }

    /** Call 0 opens, 1 sure, 2 next, 3 widths, 4 kinds. */
    private static int ask(SluiceLevels x, int call, int b, int r) {
        switch (call) {
            case 0: return x.opens(b, r);
            case 1: return x.sure(b, r);
            case 2: return x.next(b, r);
            case 3: return x.widths(0, b, r);
            default: return x.kinds(0, b, r);
        }
    }

    private static void refusals() {
        for (int call = 0; call < 5; call++) {
            SluiceLevels x = Due.with("h20g9000s9100");
            x.row(1, 0);
            x.row(2, 11);
            Due.fill(x, 3, 0, 61);
            Due.fill(x, 4, -1);
            Due.fill(x, 5, 60, 0, 0, 0, 0, 0, 0, 0, 0, 0);
            Due.is("b -1, call " + call, ask(x, call, -1, 5), Due.BAD);
            Due.is("b 3, call " + call, ask(x, call, 3, 5), Due.BAD);
            Due.is("r -1, call " + call, ask(x, call, 0, -1), Due.BAD);
            Due.is("r 6, call " + call, ask(x, call, 0, 6), Due.BAD);
            Due.finds(x, "no row, call " + call, 0, ask(x, call, 0, 0), Due.NOTHING);
            Due.finds(x, "no ints, call " + call, 0, ask(x, call, 0, 1), Due.SIZE);
            Due.finds(x, "11 ints, call " + call, 1, ask(x, call, 0, 2), Due.SIZE);
            Due.finds(x, "61, call " + call, 0, ask(x, call, 0, 3), Due.UNLIKE);
            Due.finds(x, "-1, call " + call, 1, ask(x, call, 0, 4), Due.UNLIKE);
            Due.is("10 ints are well, call " + call, ask(x, call, 0, 5) == Due.FINDING ? 1 : 0, 0);
            Due.is("no DEEDS, call " + call, x.count(2), 0);
            Due.is("GATES as they were, call " + call, x.count(3), 2);
        }
        SluiceLevels x = Due.with("h20g9000s9100");
        Due.fill(x, 0, 20, 61);
        Due.fill(x, 0, 20);
        Due.part(x, "what stood in a longer ROW has no part", x.opens(0, 0), 2, 1);
        Due.is("widths of GATE 2", x.widths(2, 0, 0), Due.BAD);
        Due.is("widths of GATE -1", x.widths(-1, 0, 0), Due.BAD);
        Due.is("kinds of GATE 2", x.kinds(2, 0, 0), Due.BAD);
        Due.is("kinds of GATE -1", x.kinds(-1, 0, 0), Due.BAD);
    }

    private static void orderOfRefusals() {
        for (int call = 0; call < 5; call++) {
            SluiceLevels x = new SluiceLevels();
            Due.is("STATE ahead of BAD, call " + call, ask(x, call, -1, -1), Due.STATE);
            Due.is("STATE ahead of NOTHING, call " + call, ask(x, call, 0, 0), Due.STATE);
            x = Due.with("h20g9000s9100");
            Due.is("BAD ahead of NOTHING, call " + call, ask(x, call, 3, 0), Due.BAD);
            x.row(0, 11);
            x.lay(0, 0, 61);
            Due.finds(x, "SIZE ahead of UNLIKE, call " + call, 0, ask(x, call, 0, 0), Due.SIZE);
            Due.is("nothing told, call " + call, x.upper(), 0);
        }
    }

    private static void opens() {
        // Of BASIN 0 at 20 only GATE 0 takes.
        SluiceLevels x = Due.with("h20g9100s9100w1100");
        Due.fill(x, 0, 11);
        opensAre(x, 0, 0, 2, 1);
        Due.fill(x, 0, 20);
        opensAre(x, 0, 0, 2, 0);
        Due.fill(x, 0, 12);
        opensAre(x, 0, 0, 0, Due.NONE);
        // 11 with both OPEN: 5 is left in BASIN 1; with GATE 1 shut 9, the WEIR has none.
        Due.fill(x, 0, 11, 8);
        opensAre(x, 0, 0, 1, 3);
        Due.fill(x, 0, 5);
        opensAre(x, 1, 0, 1, 3);
        Due.fill(x, 0, 0);
        opensAre(x, 1, 0, 2, 0);
        Due.fill(x, 0, 9);
        opensAre(x, 1, 0, 1, 1);
        x.turn();
        Due.fill(x, 0, 8);
        opensAre(x, 0, 0, 2, 1);
    }

    private static void opensAre(SluiceLevels x, int b, int r, int many, int least) {
        Due.part(x, "opens(" + b + ", " + r + ")", x.opens(b, r), many, 1);
        Due.is("the least set", x.asked(), least);
    }

    private static void sure() {
        SluiceLevels x = Due.with("h20g9100s9100w1100");
        Due.fill(x, 0, 11);
        Due.both(x, "GATE 0 surely", x.sure(0, 0), 1, 0);
        Due.fill(x, 0, 20);
        Due.both(x, "GATE 0 surely not", x.sure(0, 0), 0, 1);
        Due.fill(x, 0, 9);
        Due.both(x, "one set", x.sure(1, 0), 1, 2);
        Due.fill(x, 0, 60);
        Due.both(x, "no set: all but WEIRS", x.sure(0, 0), 3, 3);
        x = Due.with("h20w9100g9100w1100");
        Due.fill(x, 0, 60);
        Due.both(x, "no set: all but both WEIRS", x.sure(0, 0), 2, 2);
        Due.is("sure() tells no upper()", x.upper(), 0);
    }

    private static void next() {
        // By BASIN 0 either both or one: GATE 1 is to be told apart by BASIN 1.
        SluiceLevels x = Due.with("h20g9100s9100w1100");
        Due.fill(x, 0, 11);
        Due.both(x, "BASIN 1 tells", x.next(0, 0), 1, 1);
        // Nothing is told apart: the first BASIN.
        x = Due.with("h20g9120g9120");
        Due.fill(x, 0, 20, 20);
        Due.both(x, "none tells", x.next(2, 0), 0, 4);
        Due.fill(x, 1, 20, 21);
        x.basin(1);
        Due.is("no set", x.next(2, 1), Due.NONE);
        Due.is("asked() of what was not NONE", x.asked(), 20);
        // BASIN 1 parts the 4 sets with SLUICE 2 shut into four, so it does again.
        x = Due.with("h20g9100g4120s9101");
        Due.fill(x, 0, 1);
        Due.both(x, "parts", x.next(3, 0), 1, 1);
        Due.both(x, "parts again", x.next(3, 0), 1, 1);
        // Two sets, BASIN 0 at 60 with both, BASIN 1 too.
        x = Due.with("h60p9160");
        Due.fill(x, 0, 60);
        Due.both(x, "60 counts as a LEVEL", x.next(0, 0), 0, 2);
        // All 64 sets, all alike: 0 in each BASIN.
        x = Due.with("h00g1100s1100p1100l1100e1100g1100");
        Due.fill(x, 0, 0, 0);
        Due.part(x, "64 sets", x.opens(6, 0), 64, 1);
        Due.both(x, "64 alike", x.next(6, 0), 0, 64);
        Due.both(x, "64 alike again", x.next(3, 0), 0, 64);
        // With GATE 0 shut: BASIN 1 is 0 or 5, BASIN 2 10, 6, 5, 3 by GATES 1, 2, twice each by GATE 3.
        x = Due.with("h20g9100g9010s4100g9100");
        Due.fill(x, 0, 20);
        Due.part(x, "8 sets", x.opens(0, 0), 8, 1);
        Due.both(x, "8 sets told apart", x.next(0, 0), 2, 2);
    }

    private static void widths() {
        SluiceLevels x = Due.with("h20g9100g1100");
        Due.fill(x, 0, 15);
        Due.is("5 just", x.widths(0, 0, 0), 1 << 5);
        Due.fill(x, 0, 10);
        Due.is("10: none", x.widths(0, 0, 0), 0);
        Due.fill(x, 0, 11);
        Due.is("11: 9", x.widths(0, 0, 0), 1 << 9);
        x = Due.with("h20g9112g1000");
        Due.fill(x, 0, 16);
        Due.is("4 or more", x.widths(0, 0, 0), 0x3f0);
        Due.is("of the shut one any", x.widths(1, 0, 0), 0x3fe);
        Due.fill(x, 0, 18, 16);
        Due.is("2 and 2", x.widths(0, 0, 0), 1 << 2);
        Due.is("the WIDTH stays", x.gate(0, 1), 1);
        Due.is("9", x.asked(), 9);
    }

    private static void kinds() {
        SluiceLevels x = Due.with("h20g4110");
        Due.fill(x, 0, 16);
        Due.is("down: GATE, SLUICE, LOCK", x.kinds(0, 0, 0), 0x13);
        Due.fill(x, 0, 18);
        Due.is("WEIR", x.kinds(0, 0, 0), 8);
        Due.fill(x, 0, 24);
        Due.is("PUMP", x.kinds(0, 0, 0), 4);
        Due.fill(x, 0, 28);
        Due.is("ENGINE", x.kinds(0, 0, 0), 32);
        Due.fill(x, 0, 28, 30);
        Due.is("ENGINE for two TURNS", x.kinds(0, 0, 0), 32);
        x.turn();
        Due.fill(x, 0, 15);
        Due.is("an odd TURN: GATE, SLUICE", x.kinds(0, 0, 0), 3);
        Due.fill(x, 0, 16);
        Due.is("an odd TURN: WEIR, LOCK", x.kinds(0, 0, 0), 0x18);
        x.undo(0);
        x.wind(0);
        Due.fill(x, 0, 20);
        Due.is("shut: all but a WEIR", x.kinds(0, 0, 0), 0x37);
        Due.fill(x, 0, 18);
        Due.is("a WEIR is OPEN", x.kinds(0, 0, 0), 8);
        Due.is("the KIND stays", x.gate(0, 0), 1);
        Due.is("0", x.asked(), 0);
    }

    private static void kindsOfAWeir() {
        SluiceLevels x = Due.with("h20w4010");
        Due.fill(x, 0, 20);
        Due.is("told as shut", x.kinds(0, 0, 0), 0x37);
        // A LOT may fall on the WEIR, but winds none.
        x.lots(20, 1);
        x.undo(0);
        Due.is("told as shut yet", x.kinds(0, 0, 0), 0x37);
        x = Due.with("h20w4110");
        Due.fill(x, 0, 16);
        Due.is("told as OPEN", x.kinds(0, 0, 0), 0x13);
        x = Due.with("h20w1020g1020");
        for (int seed = 1; seed < 40; seed++) {
            x.lots(20, seed);
            Due.fill(x, 0, levelAhead(x));
            Due.is("lots of seed " + seed + " wind no WEIR", x.kinds(0, 0, 0) & 1, shutAhead(x));
            x.undo(0);
        }
    }

    private static int levelAhead(SluiceLevels x) {
        return x.level(0, 1);
    }

    /** Whether BASIN 0 stays as it is behind a TURN, as it would with GATE 0 a shut one. */
    private static int shutAhead(SluiceLevels x) {
        return x.level(0, 0) == x.level(0, 1) ? 1 : 0;
    }
}

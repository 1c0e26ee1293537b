/** Promises 27 to 31, sentence by sentence: the edges of what is told by how a basin stood. */
final class EdgesSeen {
    private static final int BIG = Integer.MAX_VALUE, SMALL = Integer.MIN_VALUE;
    private static final String[] CALLS = {"opens", "sure", "next", "widths", "kinds"};

    private EdgesSeen() {
    }

    static void all() {
        rowsOfLevels();
        byThatRow();
        refusals();
        opens();
        opensByTurns();
        opensAllElse();
        sure();
        next();
        widths();
        kinds();
        kindsOfAWeir();
    }

    private static int ask(SluiceLevels x, int call, int i, int b, int r) {
        switch (call) {
            case 0: return x.opens(b, r);
            case 1: return x.sure(b, r);
            case 2: return x.next(b, r);
            case 3: return x.widths(i, b, r);
            default: return x.kinds(i, b, r);
        }
    }

    private static void rowsOfLevels() {
        Sentences.of(Sentences.TERMS, "(a ROW of 1 to 10 ints: the LEVEL of a BASIN behind 1, 2, .. TURNS from now on, 0 .. 60: "
            + "NOTHING; SIZE; UNLIKE; behind STATE, BAD)");
        for (int c = 0; c < CALLS.length; c++) {
            int call = c;
            SluiceLevels x = Due.with("h00g9000s9160");
            Due.fill(x, 0, 0);
            Due.fill(x, 1, 0, 0, 0, 0, 0, 0, 0, 0, 0, 0);
            Due.fill(x, 2, 60, 60);
            Due.is(CALLS[call] + " by one int", ask(x, call, 0, 0, 0) >= 0 ? 1 : 0, 1);
            Due.is(CALLS[call] + " by ten", ask(x, call, 0, 0, 1) >= 0 ? 1 : 0, 1);
            Due.is(CALLS[call] + " by 60", ask(x, call, 0, 2, 2) >= 0 ? 1 : 0, 1);
            Due.aside(x, CALLS[call], () -> ask(x, call, 0, 0, 1));
            findings(call);
        }
    }

    /** By ROW 5, though ROW 0 is there as well, and tells something else. */
    private static void byThatRow() {
        SluiceLevels x = Due.with("h20g9100s9100");
        Due.fill(x, 0, 20);
        Due.fill(x, 5, 11, 8);
        Due.part(x, "opens", x.opens(0, 5), 1, 1);
        Due.both(x, "sure", x.sure(0, 5), 3, 0);
        Due.both(x, "next", x.next(0, 5), 0, 1);
        Due.is("widths", x.widths(0, 0, 5), 1 << 9);
        Due.is("kinds", x.kinds(0, 0, 5), 3);
    }

    private static void findings(int call) {
        SluiceLevels x = Due.with("h00g9000s9160");
        Due.finds(x, CALLS[call] + " by a missing ROW", () -> ask(x, call, 0, 0, 5), Due.NOTHING);
        x.row(5, 0);
        Due.finds(x, CALLS[call] + " by none", () -> ask(x, call, 0, 0, 5), Due.SIZE);
        x.row(5, 11);
        Due.finds(x, CALLS[call] + " by eleven", () -> ask(x, call, 0, 0, 5), Due.SIZE);
        x.row(5, 40);
        Due.finds(x, CALLS[call] + " by forty", () -> ask(x, call, 0, 0, 5), Due.SIZE);
        int[] none = {-1, 61, BIG, SMALL};
        for (int v : none) {
            Due.fill(x, 5, v);
            Due.finds(x, CALLS[call] + " by " + v, () -> ask(x, call, 0, 0, 5), Due.UNLIKE);
        }
        Due.fill(x, 5, 7, 0, 0, 0, 0, 0, 0, 0, 0, 61);
        Due.finds(x, CALLS[call] + " by 61 at the tenth place, though the first fits none", () -> ask(x, call, 0, 0, 5), Due.UNLIKE);
        Due.fill(x, 5, 0, 61);
        Due.fill(x, 5, 0);
        Due.is(CALLS[call] + ": what stood behind the end is not looked at", ask(x, call, 0, 0, 5) >= 0 ? 1 : 0, 1);
    }

    /** The refusals of one of the five calls, in the document's words, and its order of them. */
    private static void refusals() {
        for (int c = 0; c < CALLS.length; c++) {
            int call = c;
            int promise = 27 + c;
            SluiceLevels none = new SluiceLevels();
            Sentences.of(promise, call == 0 ? "STATE: no GATES;" : "STATE;");
            Due.refuses(none, CALLS[call] + " of no GATES", () -> ask(none, call, 0, 0, 0), Due.STATE);
            Sentences.of(promise, "BAD;");
            SluiceLevels x = Due.with("h00g9000s9160");
            Due.fill(x, 1, 0);
            bad(x, call);
            Sentences.of(promise, "NOTHING;");
            Due.finds(x, CALLS[call] + " by a missing ROW", () -> ask(x, call, 0, 0, 0), Due.NOTHING);
            Sentences.of(promise, "SIZE;");
            x.row(0, 0);
            Due.finds(x, CALLS[call] + " by none", () -> ask(x, call, 0, 0, 0), Due.SIZE);
            Sentences.of(promise, "UNLIKE.");
            Due.fill(x, 0, 61);
            Due.finds(x, CALLS[call] + " by 61", () -> ask(x, call, 0, 0, 0), Due.UNLIKE);
            Sentences.of(promise, "(In this order.)");
            inOrder(none, call);
        }
    }

    private static void bad(SluiceLevels x, int call) {
        int[] basins = {-1, 3, BIG, SMALL};
        for (int b : basins) {
            Due.refuses(x, CALLS[call] + " of BASIN " + b, () -> ask(x, call, 0, b, 1), Due.BAD);
        }
        int[] rows = {-1, 6, BIG, SMALL};
        for (int r : rows) {
            Due.refuses(x, CALLS[call] + " by ROW " + r, () -> ask(x, call, 0, 0, r), Due.BAD);
        }
        int[] gates = {-1, 2, BIG, SMALL};
        for (int i : gates) {
            if (call >= 3) {
                Due.refuses(x, CALLS[call] + " of GATE " + i, () -> ask(x, call, i, 0, 1), Due.BAD);
            }
        }
    }

    private static void inOrder(SluiceLevels none, int call) {
        Due.refuses(none, CALLS[call] + ", STATE ahead of BAD, the BASIN", () -> ask(none, call, 0, -1, 0), Due.STATE);
        Due.refuses(none, CALLS[call] + ", STATE ahead of BAD, the ROW", () -> ask(none, call, 0, 0, 6), Due.STATE);
        Due.refuses(none, CALLS[call] + ", STATE ahead of BAD, the GATE", () -> ask(none, call, 6, 0, 0), Due.STATE);
        none.row(0, 11);
        Due.refuses(none, CALLS[call] + ", STATE ahead of SIZE", () -> ask(none, call, 0, 0, 0), Due.STATE);
        SluiceLevels x = Due.with("h00g9000s9160");
        Due.refuses(x, CALLS[call] + ", BAD ahead of NOTHING", () -> ask(x, call, 0, 3, 0), Due.BAD);
        x.row(0, 11);
        x.lay(0, 0, 61);
        Due.refuses(x, CALLS[call] + ", BAD ahead of SIZE", () -> ask(x, call, 0, 3, 0), Due.BAD);
        Due.finds(x, CALLS[call] + ", SIZE ahead of UNLIKE", () -> ask(x, call, 0, 0, 0), Due.SIZE);
        Due.fill(x, 0, -1);
        Due.refuses(x, CALLS[call] + ", BAD ahead of UNLIKE", () -> ask(x, call, 0, -1, 0), Due.BAD);
    }

    private static void opensAre(SluiceLevels x, int b, int many, int least, int... stood) {
        Due.fill(x, 0, stood);
        Due.part(x, "opens of BASIN " + b + " by " + stood[0] + ", ..", x.opens(b, 0), many, 1);
        Due.is("the least", x.asked(), least);
    }

    private static void opens() {
        Sentences.of(27, "How many sets of GATES (that of none, too) (no WEIRS) can be OPEN now by these, all else as it is, "
            + "told by upper() (lower() is 1); the least by asked() (bits; NONE): 1.");
        SluiceLevels x = Due.with("h20g9100s9100");
        opensAre(x, 0, 2, 1, 11);
        opensAre(x, 0, 2, 0, 20);
        opensAre(x, 1, 1, 3, 5);
        opensAre(x, 2, 1, 3, 4);
        opensAre(x, 2, 3, 0, 0);
        opensAre(x, 0, 0, Due.NONE, 12);
        opensAre(x, 0, 0, Due.NONE, 60);
        SluiceLevels weirs = Due.with("h20w9100g9100w9000");
        opensAre(weirs, 0, 2, 0, 13);
        opensAre(weirs, 1, 1, 0, 7);
        opensAre(weirs, 1, 1, 2, 4);
        opensAre(weirs, 0, 0, Due.NONE, 20);
        SluiceLevels alone = Due.with("h20w9100");
        opensAre(alone, 0, 1, 0, 13);
        SluiceLevels six = Due.with("h00g1100s1100p1100l1100e1100g1100");
        opensAre(six, 6, 64, 0, 0, 0, 0, 0, 0, 0, 0, 0, 0, 0);
        opensAre(six, 6, 0, Due.NONE, 1);
        SluiceLevels last = Due.with("h00p1100p1100p1100p1100p1100p1160");
        opensAre(last, 0, 1, 63, 0, 0, 0, 0, 0, 1);
        opensAre(last, 6, 32, 32, 59);
    }

    private static void opensByTurns() {
        SluiceLevels x = Due.with("h20g9100s9100");
        opensAre(x, 0, 1, 3, 11, 8);
        opensAre(x, 0, 1, 1, 11, 10);
        opensAre(x, 0, 0, Due.NONE, 11, 9);
        opensAre(x, 0, 0, Due.NONE, 11, 11);
        opensAre(x, 0, 1, 3, 11, 8, 7, 7, 7, 7, 7, 7, 7, 7);
        opensAre(x, 0, 0, Due.NONE, 11, 8, 7, 7, 7, 7, 7, 7, 7, 6);
        opensAre(x, 1, 2, 0, 0, 0);
    }

    /** By LEVELS, WIDTHS, KINDS and the TURN as they are now; GATES may be shut or OPEN now. */
    private static void opensAllElse() {
        SluiceLevels x = Due.with("h20l9000");
        opensAre(x, 0, 1, 0, 20);
        opensAre(x, 0, 1, 1, 11);
        x.turn();
        opensAre(x, 0, 2, 0, 20);
        opensAre(x, 0, 1, 1, 20, 11);
        x.rain(0, 9);
        opensAre(x, 0, 1, 1, 29, 20);
        x.wind(0);
        opensAre(x, 0, 1, 1, 29, 20);
        opensAre(x, 0, 1, 0, 29, 29);
        for (int n = x.count(2); n < 40; n++) {
            x.wind(0);
        }
        opensAre(x, 0, 1, 1, 29, 20);
        Due.is("aside: forty DEEDS", x.count(2), 40);
    }

    private static void sureIs(SluiceLevels x, int b, int open, int shut, int... stood) {
        Due.fill(x, 0, stood);
        Due.both(x, "sure of BASIN " + b + " by " + stood[0] + ", ..", x.sure(b, 0), open, shut);
    }

    private static void sure() {
        Sentences.of(28, "GATES (bits; no WEIRS) that are OPEN in each such set;");
        SluiceLevels x = Due.with("h20g9100s9100");
        sureIs(x, 0, 1, 0, 11);
        sureIs(x, 0, 3, 0, 11, 8);
        sureIs(x, 2, 3, 0, 4);
        sureIs(x, 2, 0, 0, 0);
        SluiceLevels weirs = Due.with("h20w9100g9100w9000");
        sureIs(weirs, 1, 2, 0, 4);
        sureIs(weirs, 0, 0, 0, 13);
        SluiceLevels last = Due.with("h00p1100p1100p1100p1100p1100p1160");
        sureIs(last, 0, 63, 0, 0, 0, 0, 0, 0, 1);
        sureIs(last, 6, 32, 0, 59);
        Due.is("sure tells no number of sets", last.upper(), 0);
        Sentences.of(28, "those that are in none by asked() (all but WEIRS of both, if there is no set).");
        sureIs(x, 0, 0, 1, 20);
        sureIs(x, 0, 1, 2, 11, 10);
        sureIs(weirs, 1, 0, 2, 7);
        sureIs(x, 0, 3, 3, 12);
        sureIs(weirs, 0, 2, 2, 20);
        sureIs(last, 0, 63, 63, 60);
        SluiceLevels alone = Due.with("h20w9100w9000");
        sureIs(alone, 0, 0, 0, 20);
        sureIs(alone, 0, 0, 0, 13);
    }

    private static void nextIs(SluiceLevels x, int b, int best, int part, int... stood) {
        Due.fill(x, 0, stood);
        Due.both(x, "next by " + stood[0] + ", ..", x.next(b, 0), best, part);
    }

    private static void next() {
        Sentences.of(29, "The BASIN (the first) of which to see the LEVEL behind these TURNS, to tell these sets apart best: "
            + "the greatest part by which it is the same is least; that part by asked().");
        SluiceLevels x = Due.with("h20g9100s9100");
        // {GATE 0}: 11 9 0, both: 11 5 4: BASINS 1 and 2 tell them apart, BASIN 0 does not.
        nextIs(x, 0, 1, 1, 11);
        // One set: BASIN 0, as any.
        nextIs(x, 0, 0, 1, 11, 8);
        // Behind one TURN 20 0 0, 20 0 0, 11 9 0: two are the same by BASIN 0 and by BASIN 1, three by BASIN 2.
        nextIs(x, 2, 0, 2, 0);
        // Behind two: 20 0 0, 20 0 0, 10 10 0.
        nextIs(x, 2, 0, 2, 0, 0);
        SluiceLevels six = Due.with("h00g1100s1100p1100l1100e1100g1100");
        nextIs(six, 6, 0, 64, 0);
        SluiceLevels like = Due.with("h20g9120g9120");
        nextIs(like, 2, 0, 4, 20, 20);
        SluiceLevels last = Due.with("h20s9120g9160");
        // {}, {0}: 20 20 60; {1}, {0, 1}: 20 29 51.
        nextIs(last, 0, 1, 2, 20);
        // Behind two TURNS {1} and {0, 1}: 20 38 42, both.
        nextIs(last, 0, 1, 2, 20, 20);
        lastIsBest();
        SluiceLevels full = Due.with("h60p9160");
        nextIs(full, 0, 0, 2, 60);
        nextIs(full, 1, 0, 2, 60, 60, 60);
        SluiceLevels weir = Due.with("h20w9100g9100");
        // The WEIR lets 7 through; {}: 13 7 0, {1}: 13 4 3.
        nextIs(weir, 0, 1, 1, 13);
        Sentences.of(29, "NONE: there is no set.");
        Due.fill(x, 0, 12);
        Due.refuses(x, "12 can't be", () -> x.next(0, 0), Due.NONE);
        Due.fill(weir, 0, 20);
        Due.refuses(weir, "20 can't be", () -> weir.next(0, 0), Due.NONE);
    }

    /** GATES 4 and 5 alone let anything through: 12 0 6 without both, 12 6 0 by GATE 5, 18 0 0 by both, behind 4 TURNS. */
    private static void lastIsBest() {
        SluiceLevels three = Due.with("h12l1112p4100p2006");
        nextIs(three, 0, 3, 4, 12, 12, 12, 12);
        SluiceLevels six = Due.with("h12s1012s1012s1012l1112p4100p2006");
        nextIs(six, 0, 6, 32, 12, 12, 12, 12);
    }

    private static void widthsAre(SluiceLevels x, int i, int b, int want, int... stood) {
        Due.fill(x, 0, stood);
        Due.is("widths of GATE " + i + " by " + stood[0] + ", .. of BASIN " + b, x.widths(i, b, 0), want);
    }

    private static void widths() {
        Sentences.of(30, "Which WIDTHS (bits 1 .. 9) a GATE can have by these of a BASIN, all else as it is.");
        SluiceLevels x = Due.with("h20g4100g1000");
        widthsAre(x, 0, 0, 1 << 1, 19);
        widthsAre(x, 0, 0, 1 << 9, 11);
        widthsAre(x, 0, 1, 1 << 5, 5);
        widthsAre(x, 0, 0, 0, 20);
        widthsAre(x, 0, 0, 0, 10);
        widthsAre(x, 1, 0, 0x3fe, 16);
        widthsAre(x, 1, 0, 0, 15);
        widthsAre(x, 0, 0, 1 << 4, 16, 12, 10);
        widthsAre(x, 0, 0, 1 << 1, 19, 18, 17, 16, 15, 14, 13, 12, 11, 10);
        SluiceLevels half = Due.with("h20w1111");
        // 9 apart, 4 over the WEIR: 2.
        widthsAre(half, 0, 0, 0x3fc, 18);
        widthsAre(half, 0, 0, 1 << 1, 19);
        SluiceLevels shut = Due.with("h20g4000");
        widthsAre(shut, 0, 0, 0x3fe, 20);
        shut.wind(0);
        widthsAre(shut, 0, 0, 0, 20);
        Due.tells(shut, "its WIDTH stays", shut.gate(0, 1), 4);
        SluiceLevels lock = Due.with("h20l9100");
        widthsAre(lock, 0, 0, 1 << 9, 11);
        lock.turn();
        widthsAre(lock, 0, 0, 0x3fe, 11);
        Due.aside(lock, "widths", () -> lock.widths(0, 0, 0));
        int told = lock.asked();
        lock.widths(0, 0, 0);
        Due.is("nothing by asked()", lock.asked(), told);
    }

    private static void kindsAre(SluiceLevels x, int i, int b, int want, int... stood) {
        Due.fill(x, 0, stood);
        Due.is("kinds of GATE " + i + " by " + stood[0] + ", .. of BASIN " + b, x.kinds(i, b, 0), want);
    }

    private static void kinds() {
        Sentences.of(31, "Of which KINDS (bits) a GATE can be by these of a BASIN, all else as it is");
        SluiceLevels x = Due.with("h20g4110");
        kindsAre(x, 0, 0, 1 + 2 + 16, 16);
        kindsAre(x, 0, 0, 8, 18);
        kindsAre(x, 0, 0, 4, 24);
        kindsAre(x, 0, 0, 32, 28);
        kindsAre(x, 0, 1, 32, 2);
        kindsAre(x, 0, 0, 0, 20);
        kindsAre(x, 0, 0, 1 + 2, 16, 15);
        kindsAre(x, 0, 0, 16, 16, 16);
        kindsAre(x, 0, 0, 16, 16, 16, 15, 15, 15, 15, 15, 15, 15, 15);
        SluiceLevels up = Due.with("h10g4120");
        kindsAre(up, 0, 0, 1 + 4, 14);
        kindsAre(up, 0, 0, 2 + 16, 10);
        kindsAre(up, 0, 0, 8, 12);
        SluiceLevels shut = Due.with("h20g4010");
        kindsAre(shut, 0, 0, 1 + 2 + 4 + 16 + 32, 20);
        kindsAre(shut, 0, 0, 8, 18);
        shut.wind(0);
        kindsAre(shut, 0, 0, 1 + 2 + 16, 16);
        shut.turn();
        Due.levels(shut, "TURN 1 is next", 16, 14);
        kindsAre(shut, 0, 0, 1 + 2, 15);
        kindsAre(shut, 0, 0, 8 + 16, 16);
        kindsAre(shut, 0, 0, 4 + 32, 20);
        Due.tells(shut, "its KIND stays", shut.gate(0, 0), 0);
        Due.aside(shut, "kinds", () -> shut.kinds(0, 0, 0));
        SluiceLevels none = Due.with("h00g4000w4000");
        kindsAre(none, 0, 0, 63, 0, 0, 0, 0, 0, 0, 0, 0, 0, 0);
        kindsAre(none, 1, 0, 63, 0);
    }

    private static void kindsOfAWeir() {
        Sentences.of(31, "(a WEIR as another KIND: OPEN as told in the TEXT).");
        SluiceLevels shut = Due.with("h20w4010");
        kindsAre(shut, 0, 0, 1 + 2 + 4 + 16 + 32, 20);
        kindsAre(shut, 0, 0, 0, 16);
        SluiceLevels open = Due.with("h20w4110");
        kindsAre(open, 0, 0, 0, 20);
        kindsAre(open, 0, 0, 1 + 2 + 16, 16);
        kindsAre(open, 0, 0, 8, 18);
        SluiceLevels mixed = Due.with("h20w4010w4110w4010");
        // WEIR 0 lets 2 through; then BASINS 1 and 2 are 12 and 10.
        kindsAre(mixed, 1, 2, 1 + 2 + 16, 11);
        kindsAre(mixed, 1, 2, 8, 10);
        kindsAre(mixed, 0, 0, 1 + 2 + 4 + 16 + 32, 20);
        // It stays as told behind LOTS, also undone, kept and gone on from.
        shut.lots(20, 2);
        shut.keep(1);
        shut.undo(0);
        kindsAre(shut, 0, 0, 1 + 2 + 4 + 16 + 32, 20);
        shut.on(1);
        shut.undo(0);
        kindsAre(shut, 0, 0, 1 + 2 + 4 + 16 + 32, 20);
        open.lots(20, 2);
        open.lots(20, 5);
        open.undo(0);
        kindsAre(open, 0, 0, 1 + 2 + 16, 16);
        lotsOnAWeir();
    }

    /** A LOT that falls on the only GATE winds no WEIR: also as another KIND it is as told in the TEXT. */
    private static void lotsOnAWeir() {
        int wound = 0;
        for (int seed = 1; seed <= 20; seed++) {
            long lot = 48271L * seed % 2147483647L;
            SluiceLevels x = Due.with("h20w4010");
            x.lots(1, seed);
            if (lot / 8 % 8 == 4 || lot / 8 % 8 == 5) {
                wound++;
                kindsAre(x, 0, 0, 1 + 2 + 4 + 16 + 32, 20);
            }
        }
        Due.is("some LOTS fell on it", wound > 1 ? 1 : 0, 1);
    }
}

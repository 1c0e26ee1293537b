/** Promises 23 to 26, sentence by sentence: the edges of what comes, and of which gates. */
final class EdgesAhead {
    private static final int BIG = Integer.MAX_VALUE, SMALL = Integer.MIN_VALUE;

    private EdgesAhead() {
    }

    static void all() {
        aside();
        asideNow();
        level();
        levelRefused();
        stops();
        stopsRefused();
        high();
        highOfSix();
        highNone();
        highRefused();
        even();
        evenRefused();
    }

    /** A BRIDGE with its DEEDS, kept ones, something told: all of it is to stay. */
    private static SluiceLevels amid() {
        SluiceLevels x = Due.with("h40g5110s3025p2107w4030l6119e1002");
        x.wind(1);
        x.keep(0);
        x.turn();
        x.rain(0, 9);
        x.keep(2);
        x.mid(0, 6);
        return x;
    }

    private static void staysAmid(SluiceLevels x) {
        Due.is("DEEDS", x.count(2), 3);
        Due.is("upper()", x.upper(), amid().upper());
        Due.is("lower()", x.lower(), amid().lower());
        Due.is("undone as ever", x.undo(1), 2);
        Due.levels(x, "undone", 40, 10, 25, 7, 30, 19, 2);
        Due.is("gone on from as ever", x.on(2), 3);
        Due.is("digest() as ever", x.digest(), amid().digest());
    }

    private static void aside() {
        Sentences.of(Sentences.TERMS, "(aside)");
        SluiceLevels x = amid();
        Due.aside(x, "flows", () -> x.flows(0, 60, 0, 99));
        Due.aside(x, "level", () -> x.level(6, 40));
        Due.is("stops", x.stops() >= Due.NONE ? 1 : 0, 1);
        staysAmid(x);
    }

    private static void asideNow() {
        Sentences.of(Sentences.TERMS, "(aside, now)");
        SluiceLevels x = amid();
        Due.aside(x, "high", () -> x.high(1, 20, 1));
        Due.aside(x, "even", () -> x.even(20));
        staysAmid(x);
        // The GATES are wound ahead of the next TURN, none later on.
        SluiceLevels now = Due.with("h20g9000g9100");
        Due.both(now, "high now", now.high(2, 4, 1), 1, 1);
        Due.both(now, "even now", now.even(1), 3, 7);
        now.wind(0);
        Due.both(now, "high since", now.high(2, 4, 1), 0, 0);
        now.turn();
        Due.both(now, "high of the LEVELS now", now.high(2, 6, 1), 0, 0);
        Due.both(now, "even of the LEVELS now", now.even(1), 3, 2);
    }

    private static void level() {
        Sentences.of(23, "The LEVEL of a BASIN behind n (0 .. 40) TURNS;");
        SluiceLevels x = Due.with("h20g9100g9100");
        int[][] due = {{20, 0, 0}, {11, 5, 4}, {8, 6, 6}, {7, 7, 6}, {7, 7, 6}};
        for (int n = 0; n < due.length; n++) {
            for (int b = 0; b <= 2; b++) {
                Due.is("level(" + b + ", " + n + ")", x.level(b, n), due[n][b]);
            }
        }
        Due.is("behind 40", x.level(0, 40), 7);
        Due.aside(x, "level", () -> x.level(0, 40));
        SluiceLevels drops = Due.with("h00p1160");
        Due.is("39 TURNS", drops.level(0, 39), 39);
        Due.is("40 TURNS", drops.level(0, 40), 40);
        SluiceLevels lock = Due.with("h20l1100");
        lock.turn();
        Due.is("TURNS from the next one on, an odd one", lock.level(0, 1), 19);
        Due.is("and an even one", lock.level(0, 2), 18);
        for (int n = 0; n < 38; n++) {
            lock.wind(0);
        }
        lock.draw(1, 1);
        Due.is("forty DEEDS", lock.count(2), 40);
        Due.is("aside, though there is no room for more", lock.level(0, 4), 17);
        Sentences.of(23, "GATES (bits) that let something through in the last one of these by asked() (0: n is 0).");
        int[] bits = {0, 3, 3, 1, 0};
        for (int n = 0; n < bits.length; n++) {
            x.level(1, n);
            Due.is("level(1, " + n + "): asked()", x.asked(), bits[n]);
        }
        x.level(1, 3);
        x.level(1, 0);
        Due.is("0, whatever was told ahead", x.asked(), 0);
        x.level(1, 40);
        Due.is("behind 40", x.asked(), 0);
        drops.level(0, 40);
        Due.is("the fortieth TURN", drops.asked(), 1);
    }

    private static void levelRefused() {
        Sentences.of(23, "BAD;");
        SluiceLevels x = Due.with("h20g9100g9100");
        x.basin(0);
        Due.refuses(x, "n -1", () -> x.level(0, -1), Due.BAD);
        Due.refuses(x, "n 41", () -> x.level(0, 41), Due.BAD);
        Due.refuses(x, "n BIG", () -> x.level(0, BIG), Due.BAD);
        Due.refuses(x, "n SMALL", () -> x.level(0, SMALL), Due.BAD);
        Due.refuses(x, "b 3", () -> x.level(3, 1), Due.BAD);
        Due.refuses(x, "b -1", () -> x.level(-1, 1), Due.BAD);
        Due.refuses(x, "b BIG", () -> x.level(BIG, 1), Due.BAD);
        Sentences.of(23, "STATE: no GATES.");
        SluiceLevels none = new SluiceLevels();
        Due.refuses(none, "no GATES", () -> none.level(0, 0), Due.STATE);
        Sentences.of(23, "(STATE first.)");
        Due.refuses(none, "and no BASIN", () -> none.level(-1, 0), Due.STATE);
        Due.refuses(none, "and no number", () -> none.level(0, 41), Due.STATE);
    }

    private static void stopsAre(String bridge, int want) {
        SluiceLevels x = Due.with(bridge);
        Due.is("stops of " + bridge, x.stops(), want);
    }

    private static void stops() {
        Sentences.of(24, "The first n (0 .. 40) behind which no GATE lets anything through in any of 6 TURNS more.");
        stopsAre("h20g9000", 0);
        stopsAre("h20g9119", 0);
        stopsAre("h20g9118", 1);
        stopsAre("h20g9100g9100", 3);
        stopsAre("h00p1139", 39);
        stopsAre("h00p1140", 40);
        // In TURN 2 k they are 40 - 2 k apart: the last 1 comes through in TURN 38.
        stopsAre("h40l1100", 39);
        stopsAre("h41l1100", 39);
        stopsAre("h40l1101", 37);
        stopsAre("h20l1110", 9);
        SluiceLevels x = Due.with("h00p1140");
        x.turn();
        Due.is("from now on", x.stops(), 39);
        SluiceLevels lock = Due.with("h20l9118");
        lock.turn();
        lock.rain(0, 2);
        lock.turn();
        Due.is("in TURN 2 one more", lock.stops(), 1);
        lock.undo(2);
        Due.is("rests in TURN 1, lets through in TURN 2", lock.stops(), 2);
        Due.aside(lock, "stops", () -> lock.stops());
        Due.is("nothing by asked()", lock.asked(), 0);
    }

    private static void stopsRefused() {
        Sentences.of(24, "NONE: there is none.");
        SluiceLevels x = Due.with("h00p1141");
        Due.refuses(x, "41 drops", () -> x.stops(), Due.NONE);
        SluiceLevels lock = Due.with("h42l1100");
        Due.refuses(lock, "a LOCK till TURN 40", () -> lock.stops(), Due.NONE);
        Sentences.of(24, "STATE: no GATES.");
        SluiceLevels none = new SluiceLevels();
        Due.refuses(none, "no GATES", () -> none.stops(), Due.STATE);
    }

    private static void high() {
        Sentences.of(25, "The fewest GATES to be WOUND now (no WEIRS) so that a BASIN stands at v (0 .. 60) or more behind n (1 .. 20) TURNS;");
        SluiceLevels x = Due.with("h10g9020s9030");
        Due.both(x, "none: it stands so high", x.high(1, 20, 20), 0, 0);
        Due.both(x, "or more", x.high(2, 29, 1), 0, 0);
        Due.both(x, "v 0", x.high(0, 0, 20), 0, 0);
        Due.both(x, "one", x.high(0, 11, 1), 1, 1);
        Due.both(x, "just so high", x.high(0, 15, 1), 1, 1);
        Due.both(x, "n 20", x.high(0, 15, 20), 1, 1);
        SluiceLevels pumps = Due.with("h10g9010p9010p9030");
        Due.both(pumps, "one is enough", pumps.high(1, 20, 2), 1, 2);
        Due.both(pumps, "two", pumps.high(1, 21, 2), 2, 6);
        SluiceLevels shuts = Due.with("h20g9110");
        Due.both(shuts, "to be shut", shuts.high(0, 16, 1), 1, 1);
        SluiceLevels full = Due.with("h51p9060");
        Due.both(full, "v 60", full.high(0, 60, 1), 1, 1);
        SluiceLevels weirs = Due.with("h10w1010p9010w1010p9130");
        Due.both(weirs, "past WEIRS", weirs.high(1, 19, 1), 1, 2);
        Due.aside(weirs, "high", () -> weirs.high(1, 19, 1));
        Sentences.of(25, "of like ones the least set by asked().");
        SluiceLevels like = Due.with("h30g3010g3030");
        Due.both(like, "GATE 0 or GATE 1", like.high(1, 13, 1), 1, 1);
        Due.both(like, "both", like.high(1, 14, 1), 2, 3);
        SluiceLevels fewer = Due.with("h60s9000s9000p9009");
        Due.both(fewer, "GATE 2 alone rather than GATES 0 and 1", fewer.high(2, 4, 1), 1, 4);
    }

    private static void highOfSix() {
        // Each PUMP must lift 1 a TURN for BASIN 0 to have 1 behind 6 TURNS: all six are wound.
        SluiceLevels x = Due.with("h00p1000p1000p1000p1000p1000p1060");
        Due.both(x, "all six", x.high(0, 1, 6), 6, 63);
        Due.refuses(x, "a TURN too few", () -> x.high(0, 1, 5), Due.NONE);
        SluiceLevels open = Due.with("h00p1100p1100p1100p1100p1100p1060");
        Due.both(open, "the last one", open.high(0, 1, 6), 1, 32);
    }

    private static void highNone() {
        Sentences.of(25, "NONE: it can't be.");
        SluiceLevels x = Due.with("h10g9020w9130");
        x.basin(1);
        Due.refuses(x, "one more", () -> x.high(0, 16, 1), Due.NONE);
        Due.refuses(x, "v 60", () -> x.high(2, 60, 20), Due.NONE);
        SluiceLevels weir = Due.with("h30w9110");
        Due.refuses(weir, "a WEIR can't be shut", () -> weir.high(0, 24, 1), Due.NONE);
        Due.both(weir, "as it comes", weir.high(0, 23, 1), 0, 0);
    }

    private static void highRefused() {
        Sentences.of(25, "BAD;");
        SluiceLevels x = Due.with("h10g9020");
        x.basin(1);
        Due.refuses(x, "b 2", () -> x.high(2, 1, 1), Due.BAD);
        Due.refuses(x, "b -1", () -> x.high(-1, 1, 1), Due.BAD);
        Due.refuses(x, "b SMALL", () -> x.high(SMALL, 1, 1), Due.BAD);
        Due.refuses(x, "v -1", () -> x.high(0, -1, 1), Due.BAD);
        Due.refuses(x, "v 61", () -> x.high(0, 61, 1), Due.BAD);
        Due.refuses(x, "v BIG", () -> x.high(0, BIG, 1), Due.BAD);
        Due.refuses(x, "n 0", () -> x.high(0, 1, 0), Due.BAD);
        Due.refuses(x, "n 21", () -> x.high(0, 1, 21), Due.BAD);
        Due.refuses(x, "n BIG", () -> x.high(0, 1, BIG), Due.BAD);
        Sentences.of(25, "STATE: no GATES.");
        SluiceLevels none = new SluiceLevels();
        Due.refuses(none, "no GATES", () -> none.high(0, 0, 1), Due.STATE);
        Sentences.of(25, "(STATE first.)");
        Due.refuses(none, "and no BASIN", () -> none.high(1, 0, 1), Due.STATE);
        Due.refuses(none, "and no LEVEL", () -> none.high(0, 61, 1), Due.STATE);
        Due.refuses(none, "and no number", () -> none.high(0, 0, 0), Due.STATE);
    }

    private static void even() {
        Sentences.of(26, "The set of GATES (no WEIRS) to be OPEN now, all others shut (but WEIRS), "
            + "so that the greatest LEVEL less the least behind n (1 .. 20) TURNS is least;");
        SluiceLevels x = Due.with("h20g9000g9000");
        Due.both(x, "one TURN", x.even(1), 3, 7);
        Due.both(x, "two", x.even(2), 3, 2);
        Due.both(x, "n 20", x.even(20), 3, 1);
        SluiceLevels shut = Due.with("h20p9120g9020");
        Due.both(shut, "the PUMP is to be shut", shut.even(1), 0, 0);
        SluiceLevels weirs = Due.with("h20w9110w9110g9000");
        Due.both(weirs, "two WEIRS", weirs.even(1), 4, 13);
        Due.aside(weirs, "even", () -> weirs.even(1));
        SluiceLevels alone = Due.with("h40w5010");
        Due.both(alone, "a WEIR alone, which lets through", alone.even(1), 0, 20);
        Sentences.of(26, "of like ones the least;");
        SluiceLevels like = Due.with("h20g9120s9120l9120");
        Due.both(like, "any set will do", like.even(3), 0, 0);
        SluiceLevels either = Due.with("h60g9000s9060");
        Due.both(either, "GATE 0 or both", either.even(1), 1, 51);
        Sentences.of(26, "that DIFFERENCE by asked().");
        SluiceLevels most = Due.with("h60s9100s9000");
        Due.both(most, "LEVELS 51, 5, 4", most.even(1), 3, 47);
        SluiceLevels top = Due.with("h00s9160");
        Due.both(top, "60 at most", top.even(20), 0, 60);
        SluiceLevels level = Due.with("h30s9130");
        level.basin(0);
        Due.both(level, "0 at least", level.even(1), 0, 0);
    }

    private static void evenRefused() {
        Sentences.of(26, "BAD;");
        SluiceLevels x = Due.with("h10g9020");
        x.basin(1);
        Due.refuses(x, "n 0", () -> x.even(0), Due.BAD);
        Due.refuses(x, "n 21", () -> x.even(21), Due.BAD);
        Due.refuses(x, "n -1", () -> x.even(-1), Due.BAD);
        Due.refuses(x, "n BIG", () -> x.even(BIG), Due.BAD);
        Due.refuses(x, "n SMALL", () -> x.even(SMALL), Due.BAD);
        Sentences.of(26, "STATE: no GATES.");
        SluiceLevels none = new SluiceLevels();
        Due.refuses(none, "no GATES", () -> none.even(1), Due.STATE);
        Sentences.of(26, "(STATE first.)");
        Due.refuses(none, "and no number", () -> none.even(0), Due.STATE);
        Due.refuses(none, "and no number", () -> none.even(21), Due.STATE);
    }
}

/** Promises 23 to 26: what comes, which gates to wind, which to be open. */
public final class AheadTest {
    public static void main(String[] args) {
        level();
        stops();
        stopsLate();
        high();
        highRefused();
        even();
        Due.end();
    }

    private static void level() {
        Due.is("level of none", new SluiceLevels().level(-1, -1), Due.STATE);
        SluiceLevels x = Due.with("h20g9100g9100");
        Due.both(x, "level(0, 0)", x.level(0, 0), 20, 0);
        Due.both(x, "level(0, 1)", x.level(0, 1), 11, 3);
        Due.both(x, "level(1, 2)", x.level(1, 2), 6, 3);
        Due.both(x, "level(2, 3)", x.level(2, 3), 6, 1);
        Due.both(x, "level(2, 40)", x.level(2, 40), 6, 0);
        Due.is("level(0, 41)", x.level(0, 41), Due.BAD);
        Due.is("level(0, -1)", x.level(0, -1), Due.BAD);
        Due.is("level(3, 0)", x.level(3, 0), Due.BAD);
        Due.is("level(-1, 0)", x.level(-1, 0), Due.BAD);
        Due.is("aside: no DEEDS", x.count(2), 0);
        Due.is("aside: no TURN", x.count(1), 0);
        Due.is("aside: LEVELS", x.count(5), 20);
        // The number of the TURN goes on from the next one.
        x = Due.with("h20l9100");
        x.turn();
        Due.both(x, "an odd TURN first", x.level(0, 1), 11, 0);
        Due.both(x, "an even one behind it", x.level(0, 2), 10, 1);
    }

    private static void stops() {
        Due.is("stops of none", new SluiceLevels().stops(), Due.STATE);
        SluiceLevels x = Due.with("h20g9100g9100");
        Due.is("stops", x.stops(), 3);
        x.turn();
        Due.is("stops one sooner", x.stops(), 2);
        Due.is("aside", x.count(2), 1);
        x = Due.with("h20g9000");
        Due.is("stands already", x.stops(), 0);
        x = Due.with("h60l1100");
        Due.is("a LOCK that rests each second TURN", x.stops(), Due.NONE);
        // One up by the PUMP in each of 9 TURNS.
        x = Due.with("h00p1109");
        Due.is("till all is up", x.stops(), 9);
        Due.is("stops() tells nothing by asked()", x.asked(), 0);
        // By the LOCK in each second TURN 1: 10 in TURN 0, then 8, 6, 4, 2, 0 apart.
        x = Due.with("h20l1110");
        Due.is("a TURN of rest is not the end", x.stops(), 9);
        // An ENGINE lifts 2, a GATE lets 1 down: none of 6 TURNS is at rest.
        x = Due.with("h00e1130g9130");
        Due.is("level by level", x.stops() == Due.NONE || x.stops() > 6 ? 1 : 0, 1);
    }

    private static void stopsLate() {
        // 1 a TURN comes through: TURN 39 is the last of 40.
        SluiceLevels x = Due.with("h00p1140");
        Due.is("the last is 40", x.stops(), 40);
        Due.both(x, "the last one", x.level(0, 40), 40, 1);
        x = Due.with("h00p1141");
        Due.is("41 is too late", x.stops(), Due.NONE);
    }

    private static void high() {
        SluiceLevels x = Due.with("h10g9020s9030");
        Due.both(x, "as it stands", x.high(1, 20, 5), 0, 0);
        Due.both(x, "wind GATE 0", x.high(0, 11, 1), 1, 1);
        Due.both(x, "just so high", x.high(0, 15, 1), 1, 1);
        Due.is("no higher", x.high(0, 16, 1), Due.NONE);
        Due.is("asked() of what was not NONE", x.asked(), 1);
        x = Due.with("h10g9010p9010p9030");
        Due.both(x, "one is enough", x.high(1, 20, 2), 1, 2);
        Due.both(x, "two are wound", x.high(1, 21, 2), 2, 6);
        Due.both(x, "of like ones the least", x.high(0, 10, 1), 0, 0);
        x = Due.with("h30g3010g3030");
        Due.both(x, "GATE 0 or 1, the least", x.high(1, 13, 1), 1, 1);
        Due.both(x, "both", x.high(1, 14, 1), 2, 3);
        // Two WEIRS: neither is in a set.
        x = Due.with("h10w1010p9010w1010p9130");
        Due.both(x, "past two WEIRS", x.high(1, 19, 1), 1, 2);
        // A WEIR can't be wound, though it stands in the way; fewest goes ahead of least.
        x = Due.with("h30w1010s9131p9120");
        Due.both(x, "shut the PUMP", x.high(3, 20, 1), 1, 4);
        Due.is("aside", x.count(2), 0);
        Due.is("OPEN as ahead", x.count(3), 7);
        Due.both(x, "v 0", x.high(3, 0, 20), 0, 0);
        Due.is("v 60", x.high(3, 60, 20), Due.NONE);
    }

    private static void highRefused() {
        Due.is("high of none", new SluiceLevels().high(-1, -1, 0), Due.STATE);
        SluiceLevels x = Due.with("h10g9020");
        Due.is("high(2)", x.high(2, 1, 1), Due.BAD);
        Due.is("high(-1)", x.high(-1, 1, 1), Due.BAD);
        Due.is("v -1", x.high(0, -1, 1), Due.BAD);
        Due.is("v 61", x.high(0, 61, 1), Due.BAD);
        Due.is("n 0", x.high(0, 1, 0), Due.BAD);
        Due.is("n 21", x.high(0, 1, 21), Due.BAD);
        Due.both(x, "n 20", x.high(0, 15, 20), 1, 1);
    }

    private static void even() {
        Due.is("even of none", new SluiceLevels().even(0), Due.STATE);
        SluiceLevels x = Due.with("h20g9000");
        Due.both(x, "open it", x.even(1), 1, 2);
        Due.both(x, "open it for longer", x.even(2), 1, 0);
        x = Due.with("h20p9120");
        Due.both(x, "shut it", x.even(1), 0, 0);
        x = Due.with("h20w9110w9110g9000");
        Due.both(x, "two WEIRS", x.even(1), 4, 13);
        // 13 4 3, 11 5 4: the WEIR stays OPEN, rests at 6 apart, and is not told.
        x = Due.with("h20w9100g9000");
        Due.both(x, "a WEIR", x.even(20), 2, 7);
        x = Due.with("h20g9120s9120");
        Due.both(x, "of like ones the least", x.even(3), 0, 0);
        Due.is("n 0", x.even(0), Due.BAD);
        Due.is("n 21", x.even(21), Due.BAD);
        Due.is("aside", x.count(3), 3);
    }
}

/** TURNS, DEEDS and promises 15 to 21, sentence by sentence: the edges. */
final class EdgesOfDeeds {
    private static final int BIG = Integer.MAX_VALUE, SMALL = Integer.MIN_VALUE;

    private EdgesOfDeeds() {
    }

    static void all() {
        turnsOfABridge();
        whatIsDone();
        fortyDeeds();
        turn();
        turnRefused();
        wind();
        windRefused();
        rain();
        rainRefused();
        draw();
        drawRefused();
        undo();
        undoRefused();
        keep();
        keepRefused();
        on();
        onRefused();
    }

    private static void turnsOfABridge() {
        Sentences.of(Sentences.TERMS, "2 TURN 0 is next at first.");
        SluiceLevels x = Due.with("h20g9100g9100");
        Due.is("TURN 0", x.count(1), 0);
        Sentences.of(Sentences.TERMS, "A TURN: GATES 0, 1, .. one behind the other let through, by LEVELS as they are then.");
        Due.is("what comes by GATE 0 goes on by GATE 1", x.turn(), 3);
        Due.levels(x, "behind TURN 0", 11, 5, 4);
        SluiceLevels back = Due.with("h00g9100g9120");
        Due.is("what comes by GATE 1 is too late for GATE 0", back.turn(), 2);
        Due.levels(back, "behind TURN 0", 0, 9, 11);
        SluiceLevels through = Due.with("h60s9100s9100s9100s9100s9100s9100");
        Due.is("through four of six", through.turn(), 15);
        Due.levels(through, "behind TURN 0", 51, 5, 2, 1, 1, 0, 0);
        Sentences.of(Sentences.TERMS, "The next TURN's number is 1 more.");
        for (int t = 1; t <= 39; t++) {
            Due.is("TURN " + t + " is next", x.count(1), t);
            x.turn();
        }
        Due.is("behind 40", x.count(1), 40);
    }

    private static void whatIsDone() {
        Sentences.of(Sentences.TERMS, "What is done: a TURN, a GATE is WOUND (OPEN, if it was shut, else shut; a WEIR can't be), "
            + "RAIN comes to a BASIN, water is drawn from one.");
        SluiceLevels x = Due.with("h20g9000w9100");
        Due.is("a TURN", x.turn(), 0);
        Due.is("WOUND", x.wind(0), 1);
        Due.is("else shut", x.wind(0), 0);
        Due.refuses(x, "a WEIR", () -> x.wind(1), Due.STATE);
        Due.is("RAIN", x.rain(1, 3), 3);
        Due.is("drawn", x.draw(1, 2), 1);
        Due.is("five DEEDS", x.count(2), 5);
        Due.is("one TURN", x.count(1), 1);
    }

    private static void fortyDeeds() {
        Sentences.of(Sentences.TERMS, "These are DEEDS 0, 1, .. (40 at most).");
        SluiceLevels x = Due.with("h20g9000");
        for (int n = 0; n < 40; n++) {
            Due.is("DEEDS", x.count(2), n);
            Due.is("DEED " + n + " is fine", x.rain(1, 1), n + 1);
        }
        Due.is("forty", x.count(2), 40);
        Due.refuses(x, "no forty-first", () -> x.rain(1, 1), Due.FULL);
        Due.is("DEED 39 alone", x.undo(39), 1);
        Due.tells(x, "is undone", x.basin(1), 39);
        Due.is("as the fortieth", x.wind(0), 1);
        Due.refuses(x, "no forty-first", () -> x.draw(1, 1), Due.FULL);
        Due.is("all", x.undo(0), 40);
        Due.levels(x, "at first", 20, 0);
        Due.is("again", x.turn(), 0);
    }

    private static void turn() {
        Sentences.of(15, "A TURN: GATES (bits) that let something through.");
        SluiceLevels x = Due.with("h60g1100g1100g1100g1100g1100g1160");
        Due.is("first and last", x.turn(), 1 + 32);
        Due.levels(x, "1 down, 1 up", 59, 1, 0, 0, 0, 1, 59);
        SluiceLevels none = Due.with("h20g9119s9020l9119w9124");
        Due.is("none", none.turn(), 0);
        Due.is("a TURN though", none.count(1), 1);
        Due.is("a DEED though", none.count(2), 1);
        SluiceLevels all = Due.with("h30g1110p1120w1100l1150g1130e1130");
        Due.is("all but the LOCK, which would rise", all.turn(), 55);
        SluiceLevels weirs = Due.with("h40w3020w3000");
        Due.is("WEIRS told as shut", weirs.turn(), 3);
        Due.is("nothing by asked()", weirs.asked(), 0);
    }

    private static void turnRefused() {
        Sentences.of(15, "STATE: no GATES;");
        SluiceLevels none = new SluiceLevels();
        Due.refuses(none, "turn of none", () -> none.turn(), Due.STATE);
        Sentences.of(15, "FULL: 40 DEEDS. (FULL last.)");
        SluiceLevels x = Due.with("h20g1110");
        for (int n = 0; n < 40; n++) {
            Due.is("TURN " + n + " is not refused", x.turn() >= 0 ? 1 : 0, 1);
        }
        Due.refuses(x, "turn, full", () -> x.turn(), Due.FULL);
        Due.refuses(none, "without GATES there is no FULL", () -> none.turn(), Due.STATE);
    }

    private static void wind() {
        Sentences.of(16, "A GATE is WOUND: 1 it is OPEN then, 0 not.");
        SluiceLevels x = Due.with("h20g9000s9100p9000w9000l9100e9000");
        int[] then = {1, 0, 1, Due.STATE, 0, 1};
        int[] open = {27, 25, 29, 29, 13, 45};
        for (int i = 0; i < 6; i++) {
            Due.is("wind(" + i + ")", x.wind(i), then[i]);
            Due.is("OPEN then", x.count(3), open[i]);
        }
        Due.is("back again", x.wind(5), 0);
        Due.is("OPEN then", x.count(3), 13);
        Due.is("six DEEDS", x.count(2), 6);
        Due.is("no TURN", x.count(1), 0);
        Due.is("no water", x.count(4), 20);
    }

    private static void windRefused() {
        Sentences.of(16, "BAD;");
        SluiceLevels x = Due.with("h20g9000w9120");
        Due.refuses(x, "wind(2)", () -> x.wind(2), Due.BAD);
        Due.refuses(x, "wind(-1)", () -> x.wind(-1), Due.BAD);
        Due.refuses(x, "wind(BIG)", () -> x.wind(BIG), Due.BAD);
        Due.refuses(x, "wind(SMALL)", () -> x.wind(SMALL), Due.BAD);
        SluiceLevels none = new SluiceLevels();
        Due.refuses(none, "wind(0) of none", () -> none.wind(0), Due.BAD);
        Sentences.of(16, "STATE: a WEIR;");
        Due.refuses(x, "wind(1)", () -> x.wind(1), Due.STATE);
        SluiceLevels shut = Due.with("h20w9020");
        Due.refuses(shut, "a WEIR told as shut", () -> shut.wind(0), Due.STATE);
        Sentences.of(16, "FULL. (FULL last.)");
        x.lots(20, 7);
        x.lots(20, 7);
        Due.refuses(x, "wind(0), full", () -> x.wind(0), Due.FULL);
        Due.refuses(x, "BAD ahead of FULL", () -> x.wind(2), Due.BAD);
        Due.refuses(x, "STATE ahead of FULL", () -> x.wind(1), Due.STATE);
    }

    private static void rain() {
        Sentences.of(17, "RAIN of n (1 .. 9) to a BASIN (60 at most): its LEVEL then.");
        SluiceLevels x = Due.with("h50g9000s9059");
        Due.is("1 to BASIN 0", x.rain(0, 1), 51);
        Due.is("9 to 51: 60 just", x.rain(0, 9), 60);
        Due.is("1 to 59", x.rain(2, 1), 60);
        Due.is("9 to an empty one", x.rain(1, 9), 9);
        x.undo(0);
        Due.is("9 to 59: 60 at most", x.rain(2, 9), 60);
        Due.levels(x, "no other one", 50, 0, 60);
        Due.is("one DEED", x.count(2), 1);
        Due.is("no TURN", x.count(1), 0);
        Due.is("undone", x.undo(0), 1);
        Due.levels(x, "as ahead of the RAIN", 50, 0, 59);
    }

    private static void rainRefused() {
        Sentences.of(17, "BAD;");
        SluiceLevels x = Due.with("h50g9060");
        Due.refuses(x, "rain(0, 0)", () -> x.rain(0, 0), Due.BAD);
        Due.refuses(x, "rain(0, 10)", () -> x.rain(0, 10), Due.BAD);
        Due.refuses(x, "rain(0, -1)", () -> x.rain(0, -1), Due.BAD);
        Due.refuses(x, "rain(0, BIG)", () -> x.rain(0, BIG), Due.BAD);
        Due.refuses(x, "rain(0, SMALL)", () -> x.rain(0, SMALL), Due.BAD);
        Due.refuses(x, "rain(2, 1)", () -> x.rain(2, 1), Due.BAD);
        Due.refuses(x, "rain(-1, 1)", () -> x.rain(-1, 1), Due.BAD);
        Due.refuses(x, "rain(BIG, 1)", () -> x.rain(BIG, 1), Due.BAD);
        Sentences.of(17, "STATE: no GATES (ahead of BAD), or it is 60;");
        SluiceLevels none = new SluiceLevels();
        Due.refuses(none, "no GATES", () -> none.rain(0, 1), Due.STATE);
        Due.refuses(none, "ahead of BAD, the BASIN", () -> none.rain(-1, 1), Due.STATE);
        Due.refuses(none, "ahead of BAD, n", () -> none.rain(0, 0), Due.STATE);
        Due.refuses(x, "it is 60", () -> x.rain(1, 1), Due.STATE);
        Due.refuses(x, "it is 60, but BAD", () -> x.rain(1, 10), Due.BAD);
        Sentences.of(17, "FULL. (FULL last.)");
        fill(x);
        Due.refuses(x, "full", () -> x.rain(0, 1), Due.FULL);
        Due.refuses(x, "BAD ahead of FULL", () -> x.rain(0, 0), Due.BAD);
        Due.refuses(x, "STATE ahead of FULL", () -> x.rain(1, 1), Due.STATE);
    }

    /** Forty DEEDS that leave all as it was, of a shut GATE 0. */
    private static void fill(SluiceLevels x) {
        for (int n = x.count(2); n < 40; n++) {
            Due.is("DEED " + n, x.wind(0) >= 0 ? 1 : 0, 1);
        }
    }

    private static void draw() {
        Sentences.of(18, "n (1 .. 9) are drawn from a BASIN (0 at least): its LEVEL then.");
        SluiceLevels x = Due.with("h10g9060s9001");
        Due.is("1 of BASIN 0", x.draw(0, 1), 9);
        Due.is("9 of 9: 0 just", x.draw(0, 9), 0);
        Due.is("1 of 1", x.draw(2, 1), 0);
        Due.is("9 of a full one", x.draw(1, 9), 51);
        x.undo(0);
        Due.is("9 of 1: 0 at least", x.draw(2, 9), 0);
        Due.levels(x, "no other one", 10, 60, 0);
        Due.is("one DEED", x.count(2), 1);
        Due.is("no TURN", x.count(1), 0);
        Due.is("undone", x.undo(0), 1);
        Due.levels(x, "as ahead of it", 10, 60, 1);
    }

    private static void drawRefused() {
        Sentences.of(18, "BAD;");
        SluiceLevels x = Due.with("h50g9000");
        Due.refuses(x, "draw(0, 0)", () -> x.draw(0, 0), Due.BAD);
        Due.refuses(x, "draw(0, 10)", () -> x.draw(0, 10), Due.BAD);
        Due.refuses(x, "draw(0, -1)", () -> x.draw(0, -1), Due.BAD);
        Due.refuses(x, "draw(0, BIG)", () -> x.draw(0, BIG), Due.BAD);
        Due.refuses(x, "draw(0, SMALL)", () -> x.draw(0, SMALL), Due.BAD);
        Due.refuses(x, "draw(2, 1)", () -> x.draw(2, 1), Due.BAD);
        Due.refuses(x, "draw(-1, 1)", () -> x.draw(-1, 1), Due.BAD);
        Due.refuses(x, "draw(SMALL, 1)", () -> x.draw(SMALL, 1), Due.BAD);
        Sentences.of(18, "STATE: no GATES (ahead of BAD), or it is 0;");
        SluiceLevels none = new SluiceLevels();
        Due.refuses(none, "no GATES", () -> none.draw(0, 1), Due.STATE);
        Due.refuses(none, "ahead of BAD, the BASIN", () -> none.draw(-1, 1), Due.STATE);
        Due.refuses(none, "ahead of BAD, n", () -> none.draw(0, 0), Due.STATE);
        Due.refuses(x, "it is 0", () -> x.draw(1, 1), Due.STATE);
        Due.refuses(x, "it is 0, but BAD", () -> x.draw(1, 10), Due.BAD);
        Sentences.of(18, "FULL. (FULL last.)");
        fill(x);
        Due.refuses(x, "full", () -> x.draw(0, 1), Due.FULL);
        Due.refuses(x, "BAD ahead of FULL", () -> x.draw(0, 0), Due.BAD);
        Due.refuses(x, "STATE ahead of FULL", () -> x.draw(1, 1), Due.STATE);
    }

    private static void undo() {
        Sentences.of(19, "DEEDS from number n on (0 to how many there are: none then) are undone: how many.");
        SluiceLevels none = new SluiceLevels();
        Due.is("none without GATES", none.undo(0), 0);
        SluiceLevels x = Due.with("h20g9000g9100");
        Due.is("none of none", x.undo(0), 0);
        x.wind(0);
        x.turn();
        x.rain(2, 9);
        x.draw(1, 1);
        x.turn();
        Due.levels(x, "behind five", 8, 10, 10);
        Due.is("none of five", x.undo(5), 0);
        Due.levels(x, "behind five", 8, 10, 10);
        Due.is("the last one, a TURN", x.undo(4), 1);
        Due.levels(x, "behind four", 11, 4, 13);
        Due.is("TURN 1 again", x.count(1), 1);
        Due.is("what was drawn, and RAIN", x.undo(2), 2);
        Due.levels(x, "behind two", 11, 5, 4);
        Due.is("DEEDS", x.count(2), 2);
        Due.is("OPEN", x.count(3), 3);
        Due.is("all that are left", x.undo(0), 2);
        Due.levels(x, "at first", 20, 0, 0);
        Due.is("OPEN at first", x.count(3), 2);
        Due.is("TURN 0", x.count(1), 0);
        Due.is("no DEEDS", x.count(2), 0);
        Due.is("other DEEDS then", x.rain(1, 9), 9);
        Due.is("undone, too", x.undo(0), 1);
        Due.levels(x, "at first", 20, 0, 0);
        Due.is("more than there is room for, to its end", x.rain(0, 9) + x.rain(0, 9) + x.rain(0, 9) + x.rain(0, 9) + x.rain(0, 9), 230);
        Due.is("undone to what it was", x.undo(4), 1);
        Due.tells(x, "56", x.basin(0), 56);
        undoForty();
    }

    private static void undoForty() {
        SluiceLevels x = Due.with("h00g9000s9000p9000w9000l9000e9000");
        for (int n = 0; n < 40; n++) {
            x.rain(n % 7, 1);
        }
        for (int n = 39; n >= 0; n--) {
            Due.is("DEED " + n, x.undo(n), 1);
            Due.tells(x, "as ahead of DEED " + n, x.basin(n % 7), n / 7);
        }
        Due.is("all LEVELS", x.count(4), 0);
    }

    private static void undoRefused() {
        Sentences.of(19, "BAD.");
        SluiceLevels none = new SluiceLevels();
        Due.refuses(none, "undo(1) of none", () -> none.undo(1), Due.BAD);
        Due.refuses(none, "undo(-1) of none", () -> none.undo(-1), Due.BAD);
        SluiceLevels x = Due.with("h20g9000");
        Due.refuses(x, "undo(1) of none", () -> x.undo(1), Due.BAD);
        x.turn();
        x.rain(0, 1);
        Due.refuses(x, "undo(3) of two", () -> x.undo(3), Due.BAD);
        Due.refuses(x, "undo(-1)", () -> x.undo(-1), Due.BAD);
        Due.refuses(x, "undo(BIG)", () -> x.undo(BIG), Due.BAD);
        Due.refuses(x, "undo(SMALL)", () -> x.undo(SMALL), Due.BAD);
        x.undo(1);
        Due.refuses(x, "undo(2) of one that is left", () -> x.undo(2), Due.BAD);
    }

    private static void keep() {
        Sentences.of(20, "The BRIDGE (as it is, DEEDS) is kept in a place (0 .. 2): how many DEEDS.");
        SluiceLevels x = Due.with("h20g9000g9100");
        Due.is("keep(0) of no DEEDS", x.keep(0), 0);
        Due.is("one place", x.count(10), 1);
        x.wind(0);
        Due.is("keep(1) of one", x.keep(1), 1);
        x.turn();
        Due.is("keep(2) of two", x.keep(2), 2);
        Due.is("three places", x.count(10), 3);
        Due.levels(x, "the BRIDGE stays as it is", 11, 5, 4);
        Due.is("place 2 anew", x.keep(2), 2);
        Due.is("three places yet", x.count(10), 3);
        x.rain(0, 9);
        Due.is("place 2 anew, of three", x.keep(2), 3);
        Due.is("place 0 is as it was kept", x.on(0), 0);
        Due.levels(x, "place 0", 20, 0, 0);
        Due.is("OPEN", x.count(3), 2);
        Due.is("place 2 is as it was kept anew", x.on(2), 3);
        Due.levels(x, "place 2", 20, 5, 4);
        fillByTurns(x);
        Due.is("forty are kept", x.keep(1), 40);
    }

    private static void fillByTurns(SluiceLevels x) {
        for (int n = x.count(2); n < 40; n++) {
            x.turn();
        }
    }

    private static void keepRefused() {
        Sentences.of(20, "BAD;");
        SluiceLevels x = Due.with("h20g9000");
        x.keep(0);
        Due.refuses(x, "keep(-1)", () -> x.keep(-1), Due.BAD);
        Due.refuses(x, "keep(3)", () -> x.keep(3), Due.BAD);
        Due.refuses(x, "keep(BIG)", () -> x.keep(BIG), Due.BAD);
        Due.refuses(x, "keep(SMALL)", () -> x.keep(SMALL), Due.BAD);
        SluiceLevels none = new SluiceLevels();
        Due.refuses(none, "BAD ahead of STATE", () -> none.keep(3), Due.BAD);
        Sentences.of(20, "STATE: no GATES.");
        for (int k = 0; k < 3; k++) {
            int place = k;
            Due.refuses(none, "keep(" + k + ")", () -> none.keep(place), Due.STATE);
        }
    }

    private static void on() {
        Sentences.of(21, "The BRIDGE is as it was kept: how many DEEDS.");
        SluiceLevels x = Due.with("h20g9000g9100");
        x.wind(0);
        x.turn();
        x.keep(0);
        x.rain(1, 9);
        x.keep(2);
        x.undo(0);
        x.draw(0, 5);
        x.draw(0, 5);
        x.draw(0, 5);
        Due.is("on(0)", x.on(0), 2);
        Due.levels(x, "place 0", 11, 5, 4);
        Due.is("TURN 1 is next", x.count(1), 1);
        Due.is("OPEN", x.count(3), 3);
        Due.is("it is kept yet", x.count(10), 2);
        Due.is("its TURN is undone", x.undo(1), 1);
        Due.levels(x, "as ahead of it", 20, 0, 0);
        Due.is("OPEN", x.count(3), 3);
        Due.is("its winding is undone", x.undo(0), 1);
        Due.is("shut", x.count(3), 2);
        Due.is("on(2)", x.on(2), 3);
        Due.levels(x, "place 2", 11, 14, 4);
        x.turn();
        x.turn();
        Due.is("on(2) again: what was done since is gone", x.on(2), 3);
        Due.levels(x, "place 2 again", 11, 14, 4);
        Due.is("its RAIN is undone", x.undo(2), 1);
        Due.levels(x, "as ahead of it", 11, 5, 4);
        Due.is("gone on from: the same once more", x.on(2) + x.on(2), 6);
        Due.is("nothing by asked() but LEVELS", x.asked(), 4);
        onWithItsTurns();
    }

    /** Each DEED's own past is kept: LEVELS, OPEN GATES, the number of the TURN. */
    private static void onWithItsTurns() {
        SluiceLevels x = Due.with("h20g1000g1100");
        x.turn();
        x.turn();
        x.wind(0);
        x.turn();
        x.keep(1);
        x.undo(0);
        for (int n = 0; n < 4; n++) {
            x.rain(2, 9);
        }
        Due.is("on(1)", x.on(1), 4);
        int[] turns = {0, 1, 2, 2};
        int[] open = {2, 2, 2, 3};
        for (int n = 3; n >= 0; n--) {
            Due.is("DEED " + n, x.undo(n), 1);
            Due.is("TURN ahead of DEED " + n, x.count(1), turns[n]);
            Due.is("OPEN ahead of DEED " + n, x.count(3), open[n]);
            Due.levels(x, "ahead of DEED " + n, 20, 0, 0);
        }
    }

    private static void onRefused() {
        Sentences.of(21, "BAD;");
        SluiceLevels x = Due.with("h20g9000");
        x.keep(1);
        x.turn();
        Due.refuses(x, "on(-1)", () -> x.on(-1), Due.BAD);
        Due.refuses(x, "on(3)", () -> x.on(3), Due.BAD);
        Due.refuses(x, "on(BIG)", () -> x.on(BIG), Due.BAD);
        Due.refuses(x, "on(SMALL)", () -> x.on(SMALL), Due.BAD);
        Sentences.of(21, "NOTHING.");
        Due.finds(x, "on(0)", () -> x.on(0), Due.NOTHING);
        Due.finds(x, "on(2)", () -> x.on(2), Due.NOTHING);
        Due.is("on(1) is fine", x.on(1), 0);
        SluiceLevels none = new SluiceLevels();
        Due.finds(none, "on(0) without GATES", () -> none.on(0), Due.NOTHING);
        Due.refuses(none, "BAD ahead of NOTHING", () -> none.on(3), Due.BAD);
    }
}

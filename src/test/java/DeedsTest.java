/** Promises 15 to 21: turns, winding, rain, drawing, undone, kept. */
public final class DeedsTest {
    public static void main(String[] args) {
        turn();
        wind();
        rain();
        draw();
        full();
        undo();
        keepAndOn();
        keepRefused();
        Due.end();
    }

    private static void turn() {
        Due.is("turn of none", new SluiceLevels().turn(), Due.STATE);
        // One behind the other: what comes by GATE 0 is there for GATE 1.
        SluiceLevels x = Due.with("h20g9100g9100");
        Due.is("turn 0", x.turn(), 3);
        levels(x, 11, 5, 4);
        Due.is("turn 1", x.turn(), 3);
        levels(x, 8, 6, 6);
        Due.is("turn 2", x.turn(), 1);
        levels(x, 7, 7, 6);
        Due.is("turn 3", x.turn(), 0);
        Due.is("number of the next", x.count(1), 4);
        Due.is("DEEDS", x.count(2), 4);
        // GATE 0 is shut; the WEIR lets 3 up; then there are 17 ahead of the LOCK.
        x = Due.with("h20g9000w3020l9100");
        Due.is("shut, up, down", x.turn(), 6);
        levels(x, 20, 3, 9, 8);
        Due.is("a LOCK rests", x.turn(), 0);
    }

    private static void wind() {
        Due.is("wind of none", new SluiceLevels().wind(0), Due.BAD);
        SluiceLevels x = Due.with("h20g9000w3120s4100");
        Due.is("wind(0)", x.wind(0), 1);
        Due.is("wind(2)", x.wind(2), 0);
        Due.is("OPEN", x.count(3), 3);
        Due.is("wind(0) again", x.wind(0), 0);
        Due.is("a WEIR", x.wind(1), Due.STATE);
        Due.is("wind(3)", x.wind(3), Due.BAD);
        Due.is("wind(-1)", x.wind(-1), Due.BAD);
        Due.is("DEEDS", x.count(2), 3);
        Due.is("no TURN", x.count(1), 0);
    }

    private static void rain() {
        Due.is("rain on none", new SluiceLevels().rain(-1, 0), Due.STATE);
        SluiceLevels x = Due.with("h50g9059");
        Due.is("rain(0, 9)", x.rain(0, 9), 59);
        Due.is("rain(0, 9), 60 at most", x.rain(0, 9), 60);
        Due.is("rain on 60", x.rain(0, 1), Due.STATE);
        Due.is("rain(1, 1)", x.rain(1, 1), 60);
        Due.is("rain(0, 0) on 60", x.rain(0, 0), Due.BAD);
        Due.is("rain(0, 10)", x.rain(0, 10), Due.BAD);
        Due.is("rain(2, 1)", x.rain(2, 1), Due.BAD);
        Due.is("rain(-1, 1)", x.rain(-1, 1), Due.BAD);
        Due.is("DEEDS", x.count(2), 3);
    }

    private static void draw() {
        Due.is("draw of none", new SluiceLevels().draw(-1, 0), Due.STATE);
        SluiceLevels x = Due.with("h10g9001");
        Due.is("draw(0, 9)", x.draw(0, 9), 1);
        Due.is("draw(0, 9), 0 at least", x.draw(0, 9), 0);
        Due.is("draw of 0", x.draw(0, 1), Due.STATE);
        Due.is("draw(1, 1)", x.draw(1, 1), 0);
        Due.is("draw(0, 0) of 0", x.draw(0, 0), Due.BAD);
        Due.is("draw(0, 10)", x.draw(0, 10), Due.BAD);
        Due.is("draw(2, 1)", x.draw(2, 1), Due.BAD);
        Due.is("draw(-1, 1)", x.draw(-1, 1), Due.BAD);
        Due.is("draw(0, MIN)", x.draw(1, Integer.MIN_VALUE), Due.BAD);
        Due.is("DEEDS", x.count(2), 3);
    }

    private static void full() {
        SluiceLevels x = Due.with("h60g9000w1030");
        for (int n = 0; n < 40; n++) {
            Due.is("wind " + n, x.wind(0), 1 - n % 2);
        }
        Due.is("DEEDS", x.count(2), 40);
        Due.is("turn", x.turn(), Due.FULL);
        Due.is("wind", x.wind(0), Due.FULL);
        Due.is("wind a WEIR", x.wind(1), Due.STATE);
        Due.is("wind(2)", x.wind(2), Due.BAD);
        Due.is("rain", x.rain(1, 1), Due.FULL);
        Due.is("rain on 60", x.rain(0, 1), Due.STATE);
        Due.is("rain(3)", x.rain(3, 1), Due.BAD);
        Due.is("draw", x.draw(0, 1), Due.FULL);
        Due.is("draw of 0", x.draw(1, 1), Due.STATE);
        Due.is("draw(0, 10)", x.draw(0, 10), Due.BAD);
        Due.is("DEEDS stay", x.count(2), 40);
        Due.is("undo none of 40", x.undo(40), 0);
        levels(x, 60, 0, 30);
        Due.is("undo one", x.undo(39), 1);
        Due.is("rain as the last one", x.rain(1, 2), 2);
        Due.is("undo it", x.undo(39), 1);
        Due.is("draw as the last one", x.draw(0, 2), 58);
        Due.is("undo it", x.undo(39), 1);
        Due.is("wind as the last one", x.wind(0), 0);
        Due.is("undo it", x.undo(39), 1);
        Due.is("turn fits", x.turn(), 3);
        Due.is("undo all", x.undo(0), 40);
        levels(x, 60, 0, 30);
        Due.is("lots as the last ones", x.lots(20, 1) + x.lots(20, 1) >= 0 ? 1 : 0, 1);
        Due.is("40 by lots", x.count(2), 40);
    }

    private static void undo() {
        SluiceLevels x = new SluiceLevels();
        Due.is("none to undo", x.undo(0), 0);
        Due.is("undo(1) of none", x.undo(1), Due.BAD);
        x = Due.with("h20g9000g9100");
        x.wind(0);
        x.turn();
        x.rain(2, 9);
        x.draw(1, 1);
        x.turn();
        Due.is("none", x.undo(5), 0);
        levels(x, 8, 10, 10);
        Due.is("undo(6)", x.undo(6), Due.BAD);
        Due.is("undo(-1)", x.undo(-1), Due.BAD);
        Due.is("two", x.undo(3), 2);
        Due.is("TURNS", x.count(1), 1);
        levels(x, 11, 5, 13);
        Due.is("one more", x.undo(2), 1);
        levels(x, 11, 5, 4);
        Due.is("OPEN yet", x.count(3), 3);
        Due.is("all", x.undo(0), 2);
        levels(x, 20, 0, 0);
        Due.is("shut", x.count(3), 2);
        Due.is("TURN 0", x.count(1), 0);
        Due.is("DEEDS", x.count(2), 0);
    }

    private static void keepAndOn() {
        SluiceLevels x = Due.with("h20g9000g9100");
        x.wind(0);
        x.turn();
        Due.is("keep(0)", x.keep(0), 2);
        x.rain(1, 9);
        Due.is("keep(2)", x.keep(2), 3);
        x.undo(0);
        Due.is("on(0)", x.on(0), 2);
        levels(x, 11, 5, 4);
        Due.is("its DEEDS are undone", x.undo(1), 1);
        levels(x, 20, 0, 0);
        Due.is("on(2)", x.on(2), 3);
        levels(x, 11, 14, 4);
        Due.is("number", x.count(1), 1);
        Due.is("OPEN", x.count(3), 3);
        Due.is("on(0), as it was kept", x.on(0), 2);
        levels(x, 11, 5, 4);
        keptWithItsDeeds(x);
        x.on(0);
        Due.is("keep(0) anew", x.keep(2), 2);
        Due.is("two are kept", x.count(10), 2);
        Due.is("on(2)", x.on(2), 2);
        levels(x, 11, 5, 4);
    }

    /** What was done since has no part in what is undone behind on(). */
    private static void keptWithItsDeeds(SluiceLevels x) {
        x.undo(0);
        x.rain(0, 9);
        x.rain(1, 9);
        x.turn();
        x.turn();
        Due.is("on(2) with its DEEDS", x.on(2), 3);
        Due.is("the rain", x.undo(2), 1);
        Due.is("TURN 1", x.count(1), 1);
        levels(x, 11, 5, 4);
        Due.is("the TURN", x.undo(1), 1);
        levels(x, 20, 0, 0);
        Due.is("TURN 0", x.count(1), 0);
        Due.is("OPEN", x.count(3), 3);
        Due.is("the winding", x.undo(0), 1);
        Due.is("OPEN", x.count(3), 2);
    }

    private static void keepRefused() {
        SluiceLevels x = new SluiceLevels();
        Due.is("keep none", x.keep(0), Due.STATE);
        Due.is("keep(3) of none", x.keep(3), Due.BAD);
        Due.is("keep(-1)", x.keep(-1), Due.BAD);
        Due.finds(x, "on(0) without GATES", 0, x.on(0), Due.NOTHING);
        x = Due.with("h20g9000");
        Due.finds(x, "on(1)", 0, x.on(1), Due.NOTHING);
        Due.is("on(3)", x.on(3), Due.BAD);
        Due.is("on(-1)", x.on(-1), Due.BAD);
        Due.is("keep with no DEEDS", x.keep(1), 0);
        Due.is("on with no DEEDS", x.on(1), 0);
    }

    private static void levels(SluiceLevels x, int... want) {
        for (int b = 0; b < want.length; b++) {
            Due.tells(x, "basin(" + b + ")", x.basin(b), want[b]);
        }
    }
}

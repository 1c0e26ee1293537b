/** Promises 34 to 37: a duel, chances, means, lots. */
public final class DuelLotsTest {
    public static void main(String[] args) {
        duel();
        duelRefused();
        odds();
        mid();
        chancesRefused();
        lots();
        lotsRefused();
        Due.end();
    }

    private static void duel() {
        SluiceLevels x = Due.with("h20g1100");
        Due.tells(x, "nobody winds", x.duel(0), 14);
        Due.tells(x, "the second one undoes it", x.duel(1), 14);
        x = Due.with("h20g1000");
        Due.tells(x, "shut", x.duel(0), 20);
        Due.tells(x, "the second one opens", x.duel(1), 14);
        // Two GATES: the first one shuts one way, the second one has a PUMP to shut.
        x = Due.with("h20p1020g1020");
        Due.tells(x, "duel(0)", x.duel(0), 0);
        x = Due.with("h20w1130");
        // 21 29, 22 28, then it is 6 apart.
        Due.tells(x, "none to wind", x.duel(2), -6);
        x = Due.with("h10p9140");
        Due.tells(x, "up", x.duel(0), 24);
        Due.tells(x, "the second one shuts it", x.duel(1), -30);
        Due.tells(x, "twice", x.duel(2), -30);
        Due.is("aside", x.count(2), 0);
        Due.is("OPEN as it was", x.count(3), 1);
        // The first one shuts GATE 0, then the second one shuts the PUMP.
        x = Due.with("h30g3110p9120");
        Due.is("worth by turns", x.duel(1), 1);
        Due.is("as by all ways", x.asked(), byAllWays("h30g3110p9120"));
    }

    /** duel(1) of two GATES by trying each pair of choices (2: none). */
    private static int byAllWays(String bridge) {
        int most = -100;
        for (int first = 0; first < 3; first++) {
            int least = 100;
            for (int second = 0; second < 3; second++) {
                SluiceLevels x = Due.with(bridge);
                x.wind(first == 2 ? -1 : first);
                x.wind(second == 2 ? -1 : second);
                least = Math.min(least, x.level(0, 3) - x.level(2, 3));
            }
            most = Math.max(most, least);
        }
        return most;
    }

    private static void duelRefused() {
        SluiceLevels x = new SluiceLevels();
        Due.is("duel of none", x.duel(0), Due.STATE);
        Due.is("duel(3) of none", x.duel(3), Due.BAD);
        Due.is("duel(-1)", x.duel(-1), Due.BAD);
    }

    private static void odds() {
        SluiceLevels x = Due.with("h20g9110");
        Due.part(x, "moves surely", x.odds(0, 20, 0), 0, 1);
        Due.part(x, "sticks surely", x.odds(0, 20, 12), 1, 1);
        Due.part(x, "sticks by 3 of 12", x.odds(0, 20, 3), 1, 4);
        Due.part(x, "15 is sure", x.odds(0, 15, 7), 1, 1);
        Due.part(x, "16", x.odds(0, 16, 7), 7, 12);
        Due.part(x, "21 can't be", x.odds(0, 21, 7), 0, 1);
        // Both must move for BASIN 2 to have any; the shut third has no part in it.
        x = Due.with("h20w9000g9100g9000");
        Due.part(x, "both move", x.odds(2, 1, 4), 4, 9);
        Due.part(x, "5 of 12", x.odds(2, 1, 5), 49, 144);
        x = Due.with("h60g9100g9100g9100g9100g9100g9100");
        Due.part(x, "all six must move", x.odds(6, 1, 0), 0, 1);
        Due.part(x, "11 of 12 each, the first two", x.odds(2, 1, 1), 121, 144);
        Due.is("aside", x.count(2), 0);
        Due.is("odds() tells nothing by asked()", x.asked(), 0);
    }

    private static void mid() {
        SluiceLevels x = Due.with("h20g9110");
        Due.part(x, "moves surely", x.mid(0, 0), 15, 1);
        Due.part(x, "sticks surely", x.mid(0, 12), 20, 1);
        Due.part(x, "by half", x.mid(0, 6), 35, 2);
        Due.part(x, "by 3 of 12", x.mid(1, 3), 55, 4);
        x = Due.with("h20g9010");
        Due.part(x, "shut", x.mid(0, 5), 20, 1);
        x = Due.with("h00g9000");
        Due.part(x, "0 by 1", x.mid(0, 5), 0, 1);
        // 20, 0, 0: GATE 0 sticks by half: 20 0 0; else 11 and 9, of which GATE 1 takes 4 by half.
        x = Due.with("h20w9000g9100");
        Due.part(x, "WEIR, GATE: BASIN 0", x.mid(0, 6), 33, 2);
        Due.part(x, "WEIR, GATE: BASIN 2", x.mid(2, 6), 3, 4);
        x = Due.with("h20e2120");
        x.turn();
        Due.part(x, "by the number of the next TURN", x.mid(0, 0), 26, 1);
    }

    private static void chancesRefused() {
        SluiceLevels x = new SluiceLevels();
        Due.is("odds of none", x.odds(-1, -1, -1), Due.STATE);
        Due.is("mid of none", x.mid(-1, -1), Due.STATE);
        x = Due.with("h20g9110");
        Due.is("odds b 2", x.odds(2, 1, 1), Due.BAD);
        Due.is("odds b -1", x.odds(-1, 1, 1), Due.BAD);
        Due.is("odds v 61", x.odds(0, 61, 1), Due.BAD);
        Due.is("odds v -1", x.odds(0, -1, 1), Due.BAD);
        Due.is("odds p 13", x.odds(0, 1, 13), Due.BAD);
        Due.is("odds p -1", x.odds(0, 1, -1), Due.BAD);
        Due.is("mid b 2", x.mid(2, 1), Due.BAD);
        Due.is("mid b -1", x.mid(-1, 1), Due.BAD);
        Due.is("mid p 13", x.mid(0, 13), Due.BAD);
        Due.is("mid p -1", x.mid(0, -1), Due.BAD);
        Due.is("upper() as ahead", x.upper(), 0);
        Due.is("lower() as ahead", x.lower(), 1);
    }

    private static void lots() {
        // Seed 1: 48271, by 8 6033, modulo 8 1: a TURN. Then 182605794, by 8 22825724, modulo 8 4: GATE 0 or 1 by 0.
        SluiceLevels x = Due.with("h20g9100g9000");
        Due.is("a TURN", x.lots(1, 1), 11);
        Due.is("one DEED", x.count(2), 1);
        x.undo(0);
        Due.is("a TURN, then GATE 0 is shut", x.lots(2, 1), 11);
        Due.is("GATE 0 is shut", x.count(3), 0);
        Due.is("two DEEDS", x.count(2), 2);
        Due.is("one TURN", x.count(1), 1);
        x.undo(1);
        Due.is("undone each by itself", x.count(3), 1);
        // Seeds whose first number falls on 6 and 7: BASIN by it by 64, modulo 3.
        byFirst(6, 5);
        byFirst(7, -5);
        for (int which = 0; which <= 5; which++) {
            byFirstTurnOrGate(which);
        }
        // A LOT on a WEIR, on what is 60 and on what is 0 is a DEED, too.
        x = Due.with("h60w1060");
        Due.is("20 lots", x.lots(20, 2147483646) >= 0 ? 1 : 0, 1);
        Due.is("20 DEEDS", x.count(2), 20);
        Due.is("the WEIR is OPEN", x.count(3), 1);
    }

    private static void byFirstTurnOrGate(int which) {
        int looked = 0;
        for (int seed = 1; seed < 200; seed++) {
            long z = 48271L * seed % 2147483647L;
            if (z / 8 % 8 != which) {
                continue;
            }
            // Of three GATES the one in the middle is a WEIR.
            SluiceLevels x = Due.with("h20g9100w9000g9000");
            int i = (int) (z % 3);
            int open = 3 ^ (which < 4 || i == 1 ? 0 : 1 << i);
            Due.is("lot " + which + " of seed " + seed, x.lots(1, seed), which < 4 ? 11 : 20);
            Due.is("OPEN behind it", x.count(3), open);
            Due.is("TURNS behind it", x.count(1), which < 4 ? 1 : 0);
            Due.is("DEEDS behind it", x.count(2), 1);
            looked++;
        }
        Due.is("seeds with " + which, looked > 5 ? 1 : 0, 1);
    }

    private static void byFirst(int which, int more) {
        int looked = 0;
        for (int seed = 1; seed < 200; seed++) {
            long z = 48271L * seed % 2147483647L;
            if (z / 8 % 8 != which) {
                continue;
            }
            int b = (int) (z / 64 % 3);
            SluiceLevels x = Due.with("h02g9058g9030");
            int[] levels = {2, 58, 30};
            levels[b] = Math.max(0, Math.min(60, levels[b] + more));
            Due.is("lot " + which + " of seed " + seed, x.lots(1, seed), levels[0]);
            Due.tells(x, "BASIN " + b, x.basin(b), levels[b]);
            Due.is("all LEVELS", x.count(4), levels[0] + levels[1] + levels[2]);
            looked++;
        }
        Due.is("seeds with " + which, looked > 5 ? 1 : 0, 1);
    }

    private static void lotsRefused() {
        SluiceLevels x = new SluiceLevels();
        Due.is("lots of none", x.lots(1, 1), Due.STATE);
        Due.is("n 0 of none", x.lots(0, 1), Due.BAD);
        x = Due.with("h20g9110");
        Due.is("n 0", x.lots(0, 1), Due.BAD);
        Due.is("n 21", x.lots(21, 1), Due.BAD);
        Due.is("seed 0", x.lots(1, 0), Due.BAD);
        Due.is("seed -1", x.lots(1, -1), Due.BAD);
        Due.is("seed 2147483647", x.lots(1, Integer.MAX_VALUE), Due.BAD);
        x.lots(20, 3);
        x.lots(15, 3);
        Due.is("6 more are too many", x.lots(6, 3), Due.FULL);
        Due.is("BAD ahead of FULL", x.lots(21, 3), Due.BAD);
        Due.is("5 more fit", x.lots(5, 3) >= 0 ? 1 : 0, 1);
        Due.is("1 more is too many", x.lots(1, 3), Due.FULL);
        Due.is("40 DEEDS", x.count(2), 40);
    }
}

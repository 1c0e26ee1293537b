/** LOTS and promises 32 to 37, sentence by sentence: the edges of sets by widths, duels, chances, lots. */
final class EdgesOfChances {
    private static final int BIG = Integer.MAX_VALUE, SMALL = Integer.MIN_VALUE;
    private static final String SIX = "h40g5110s3025p2107w4030l6119e1002";
    private static final long FACTOR = 48271L, MODULUS = 2147483647L;

    private EdgesOfChances() {
    }

    static void all() {
        sets();
        setsRefused();
        surely();
        surelyRefused();
        duel();
        duelByTurns();
        duelRefused();
        howGatesStick();
        odds();
        oddsRefused();
        mid();
        midRefused();
        numbersOfLots();
        lotByLot();
        lotsOfLevels();
        lotsAreDeeds();
        lotsRefused();
    }

    private static void setsAre(SluiceLevels x, int v, int many, int least) {
        Due.part(x, "sets(" + v + ")", x.sets(v), many, 1);
        Due.is("the first of " + v, x.asked(), least);
    }

    private static void sets() {
        Sentences.of(32, "How many sets of GATES (that of none, too) have a WIDTH of v (0 .. 54) together, told by upper() (lower() is 1); "
            + "the first (the least as bits) by asked() (bits; NONE): 1.");
        SluiceLevels x = Due.with(SIX);
        setsAre(x, 0, 1, 0);
        setsAre(x, 1, 1, 32);
        setsAre(x, 5, 3, 1);
        setsAre(x, 21, 1, 63);
        setsAre(x, 22, 0, Due.NONE);
        setsAre(x, 54, 0, Due.NONE);
        SluiceLevels nines = Due.with("h00g9100s9000p9100w9000l9100e9000");
        setsAre(nines, 54, 1, 63);
        setsAre(nines, 53, 0, Due.NONE);
        setsAre(nines, 27, 20, 7);
        setsAre(nines, 9, 6, 1);
        setsAre(nines, 0, 1, 0);
        SluiceLevels weir = Due.with("h00w9000");
        setsAre(weir, 9, 1, 1);
        setsAre(weir, 8, 0, Due.NONE);
        SluiceLevels mean = Due.with("h20g9110");
        Due.part(mean, "a mean ahead", mean.mid(0, 6), 35, 2);
        setsAre(mean, 9, 1, 1);
        Due.part(mean, "a mean ahead", mean.mid(0, 6), 35, 2);
        setsAre(mean, 8, 0, Due.NONE);
        Due.aside(x, "sets", () -> x.sets(5));
    }

    private static void setsRefused() {
        Sentences.of(32, "BAD;");
        SluiceLevels x = Due.with(SIX);
        SluiceLevels none = new SluiceLevels();
        int[] bad = {-1, 55, BIG, SMALL};
        for (int v : bad) {
            Due.refuses(x, "sets(" + v + ")", () -> x.sets(v), Due.BAD);
            Due.refuses(none, "sets(" + v + ") of none, BAD ahead of STATE", () -> none.sets(v), Due.BAD);
        }
        Sentences.of(32, "STATE: no GATES.");
        Due.refuses(none, "sets(0)", () -> none.sets(0), Due.STATE);
        Due.refuses(none, "sets(54)", () -> none.sets(54), Due.STATE);
    }

    private static void surely() {
        Sentences.of(33, "GATES (bits) that are in each such set;");
        SluiceLevels x = Due.with("h40g5110w3025p2107");
        Due.both(x, "surely(8)", x.surely(8), 3, 4);
        Due.both(x, "surely(10), all", x.surely(10), 7, 0);
        Due.both(x, "surely(0), none", x.surely(0), 0, 7);
        Due.both(x, "surely(5), one or two others", x.surely(5), 0, 0);
        SluiceLevels nines = Due.with("h00g9100s9000p9100w9000l9100e9000");
        Due.both(nines, "surely(54)", nines.surely(54), 63, 0);
        Due.both(nines, "surely(45), five of six", nines.surely(45), 0, 0);
        Sentences.of(33, "those in none by asked().");
        Due.both(x, "surely(3), the WEIR", x.surely(3), 2, 5);
        Due.both(x, "surely(2)", x.surely(2), 4, 3);
        Due.both(nines, "surely(0)", nines.surely(0), 0, 63);
        SluiceLevels ones = Due.with("h00g1100s1000p9100");
        Due.both(ones, "surely(1), never the PUMP", ones.surely(1), 0, 4);
        Due.both(ones, "surely(10), the PUMP", ones.surely(10), 4, 0);
        Due.is("no number of sets", ones.upper(), 0);
        Due.aside(ones, "surely", () -> ones.surely(1));
    }

    private static void surelyRefused() {
        Sentences.of(33, "BAD;");
        SluiceLevels x = Due.with("h40g5110w3025p2107");
        SluiceLevels none = new SluiceLevels();
        int[] bad = {-1, 55, BIG, SMALL};
        for (int v : bad) {
            Due.refuses(x, "surely(" + v + ")", () -> x.surely(v), Due.BAD);
        }
        Sentences.of(33, "STATE;");
        Due.refuses(none, "surely(0)", () -> none.surely(0), Due.STATE);
        Due.refuses(none, "surely(54)", () -> none.surely(54), Due.STATE);
        Sentences.of(33, "NOUGHT: there is no set.");
        x.surely(8);
        Due.finds(x, "surely(1)", () -> x.surely(1), Due.NOUGHT);
        Due.finds(x, "surely(54)", () -> x.surely(54), Due.NOUGHT);
        Sentences.of(33, "(In this order.)");
        for (int v : bad) {
            Due.refuses(none, "BAD ahead of STATE, " + v, () -> none.surely(v), Due.BAD);
        }
        Due.refuses(none, "STATE ahead of NOUGHT", () -> none.surely(1), Due.STATE);
        Due.refuses(x, "BAD ahead of NOUGHT", () -> x.surely(55), Due.BAD);
    }

    private static void duelIs(String bridge, int n, int want) {
        SluiceLevels x = Due.with(bridge);
        Due.tells(x, "duel(" + n + ") of " + bridge, x.duel(n), want);
        Due.aside(x, "duel", () -> x.duel(n));
    }

    private static void duel() {
        Sentences.of(34, "By turns two WIND a GATE (no WEIR), or none, n (0 .. 2) times each, the first one begins; "
            + "then there are 3 TURNS: how much higher BASIN 0 stands then than the last one, the first one wanting that to be much, "
            + "the other one little, told by asked(): 1.");
        // Three TURNS, not two or four: 19 1, 18 2, 17 3.
        duelIs("h20g1100", 0, 14);
        // The first one may wind none; what the first one does is undone by the second one.
        duelIs("h20g1100", 1, 14);
        duelIs("h20g1100", 2, 14);
        duelIs("h20g1000", 0, 20);
        duelIs("h20g1000", 1, 14);
        duelIs("h20g1000", 2, 14);
        duelIs("h10p9140", 0, 24);
        duelIs("h10p9140", 1, -30);
        // A WEIR is never wound: it is 6 apart in the end. It may be told as NONE by its number, -9.
        duelIs("h20w1130", 2, -6);
        duelIs("h20w1030", 1, -6);
        duelIs("h20s9129", 1, -9);
        duelIs("h20s9129", 2, -9);
        // The last BASIN, not the next one.
        duelIs("h20w9020w9060", 0, -14);
        SluiceLevels lock = Due.with("h20l1100");
        lock.turn();
        Due.tells(lock, "TURNS 1, 2, 3: one of them lets through", lock.duel(0), 16);
    }

    private static void duelByTurns() {
        String[] bridges = {"h30g3110p9120", "h20p3010g5030", "h60s9000s9100", "h10e2130l4020w3150", "h25p1025g2050s3100"};
        for (String bridge : bridges) {
            duelIs(bridge, 1, byAllWays(bridge, 2));
            duelIs(bridge, 2, byAllWays(bridge, 4));
        }
    }

    /** So many left to wind by turns (the first one at even numbers), tried on objects of their own. */
    private static int byAllWays(String bridge, int left) {
        return byAllWays(bridge, left, 0);
    }

    private static int byAllWays(String bridge, int left, int wound) {
        int gates = (bridge.length() - 3) / 5;
        if (left == 0) {
            return behindThree(bridge, wound, gates);
        }
        int best = byAllWays(bridge, left - 1, wound);
        for (int i = 0; i < gates; i++) {
            if (bridge.charAt(3 + 5 * i) != 'w') {
                int other = byAllWays(bridge, left - 1, wound ^ 1 << i);
                best = left % 2 == 0 ? Math.max(best, other) : Math.min(best, other);
            }
        }
        return best;
    }

    private static int behindThree(String bridge, int wound, int gates) {
        SluiceLevels x = new SluiceLevels();
        x.text(0, bridge.length());
        for (int i = 0; i < bridge.length(); i++) {
            x.put(0, i, bridge.charAt(i));
        }
        x.bridge(0);
        for (int i = 0; i < gates; i++) {
            if ((wound & 1 << i) != 0) {
                x.wind(i);
            }
        }
        return x.level(0, 3) - x.level(gates, 3);
    }

    private static void duelRefused() {
        Sentences.of(34, "BAD;");
        SluiceLevels x = Due.with("h20g1100");
        SluiceLevels none = new SluiceLevels();
        int[] bad = {-1, 3, BIG, SMALL};
        for (int n : bad) {
            Due.refuses(x, "duel(" + n + ")", () -> x.duel(n), Due.BAD);
            Due.refuses(none, "duel(" + n + ") of none, BAD ahead of STATE", () -> none.duel(n), Due.BAD);
        }
        Sentences.of(34, "STATE: no GATES.");
        Due.refuses(none, "duel(0)", () -> none.duel(0), Due.STATE);
        Due.refuses(none, "duel(2)", () -> none.duel(2), Due.STATE);
    }

    private static void oddsAre(SluiceLevels x, int b, int v, int p, int upper, int lower) {
        Due.part(x, "odds(" + b + ", " + v + ", " + p + ")", x.odds(b, v, p), upper, lower);
    }

    private static void howGatesStick() {
        Sentences.of(Sentences.TERMS, "(each GATE that is OPEN, WEIRS too, sticks in the next TURN, lets nothing through, "
            + "by p (0 .. 12) of 12, each by itself)");
        SluiceLevels x = Due.with("h20g9100");
        int[] upper = {1, 11, 5, 3, 2, 7, 1, 5, 1, 1, 1, 1, 0};
        int[] lower = {1, 12, 6, 4, 3, 12, 2, 12, 3, 4, 6, 12, 1};
        for (int p = 0; p <= 12; p++) {
            oddsAre(x, 1, 9, p, upper[p], lower[p]);
        }
        SluiceLevels weir = Due.with("h20w9000");
        oddsAre(weir, 1, 7, 3, 3, 4);
        SluiceLevels shut = Due.with("h20g9100g9000");
        oddsAre(shut, 1, 9, 3, 3, 4);
        oddsAre(shut, 2, 1, 0, 0, 1);
        SluiceLevels each = Due.with("h60g9100g9100g9100g9100g9100g9100");
        // 9 to BASIN 1, of which 4 go on, of which 2, of which 1.
        oddsAre(each, 1, 5, 6, 1, 2);
        oddsAre(each, 2, 2, 6, 1, 4);
        oddsAre(each, 3, 1, 6, 1, 8);
        oddsAre(each, 4, 1, 6, 1, 16);
        oddsAre(each, 4, 1, 1, 14641, 20736);
        SluiceLevels one = Due.with("h20g9100g9100");
        // GATE 0 lets 9 through, and GATE 1 sticks.
        oddsAre(one, 1, 9, 4, 2, 9);
        SluiceLevels lock = Due.with("h20l9100");
        lock.turn();
        oddsAre(lock, 0, 11, 5, 1, 1);
        oddsAre(lock, 0, 12, 5, 0, 1);
    }

    private static void odds() {
        Sentences.of(35, "Chances that a BASIN stands at v (0 .. 60) or more behind it: 1.");
        SluiceLevels x = Due.with("h20g9100");
        oddsAre(x, 0, 0, 5, 1, 1);
        oddsAre(x, 0, 11, 5, 1, 1);
        oddsAre(x, 0, 12, 5, 5, 12);
        oddsAre(x, 0, 20, 5, 5, 12);
        oddsAre(x, 0, 21, 5, 0, 1);
        oddsAre(x, 0, 60, 5, 0, 1);
        oddsAre(x, 0, 12, 12, 1, 1);
        oddsAre(x, 0, 12, 0, 0, 1);
        SluiceLevels full = Due.with("h51p9160");
        oddsAre(full, 0, 60, 6, 1, 2);
        oddsAre(full, 1, 60, 6, 1, 2);
        SluiceLevels six = Due.with("h10g1110g1110g1110g1110g1110g1111");
        oddsAre(six, 6, 11, 7, 1, 1);
        oddsAre(six, 6, 12, 7, 0, 1);
        SluiceLevels pumps = Due.with("h00p9101p9101p9101p9101p9101p9101");
        // BASIN 0 has 1 if GATE 0 does not stick, BASIN 6 if GATE 5 does.
        oddsAre(pumps, 0, 1, 7, 5, 12);
        oddsAre(pumps, 6, 1, 7, 7, 12);
        SluiceLevels turned = Due.with("h00e9160");
        oddsAre(turned, 0, 18, 0, 1, 1);
        turned.turn();
        oddsAre(turned, 0, 27, 0, 1, 1);
        oddsAre(turned, 0, 28, 0, 0, 1);
        Due.aside(turned, "odds", () -> turned.odds(0, 28, 3));
        Due.is("nothing by asked()", turned.asked(), 0);
    }

    private static void oddsRefused() {
        Sentences.of(35, "BAD;");
        SluiceLevels x = Due.with("h20g9100");
        x.odds(0, 12, 5);
        Due.refuses(x, "b 2", () -> x.odds(2, 1, 1), Due.BAD);
        Due.refuses(x, "b -1", () -> x.odds(-1, 1, 1), Due.BAD);
        Due.refuses(x, "b BIG", () -> x.odds(BIG, 1, 1), Due.BAD);
        Due.refuses(x, "v -1", () -> x.odds(0, -1, 1), Due.BAD);
        Due.refuses(x, "v 61", () -> x.odds(0, 61, 1), Due.BAD);
        Due.refuses(x, "v SMALL", () -> x.odds(0, SMALL, 1), Due.BAD);
        Due.refuses(x, "p -1", () -> x.odds(0, 1, -1), Due.BAD);
        Due.refuses(x, "p 13", () -> x.odds(0, 1, 13), Due.BAD);
        Due.refuses(x, "p BIG", () -> x.odds(0, 1, BIG), Due.BAD);
        Sentences.of(35, "STATE: no GATES.");
        SluiceLevels none = new SluiceLevels();
        Due.refuses(none, "no GATES", () -> none.odds(0, 0, 0), Due.STATE);
        Sentences.of(35, "(STATE first.)");
        Due.refuses(none, "and no BASIN", () -> none.odds(1, 0, 0), Due.STATE);
        Due.refuses(none, "and no LEVEL", () -> none.odds(0, 61, 0), Due.STATE);
        Due.refuses(none, "and no chance", () -> none.odds(0, 0, 13), Due.STATE);
    }

    private static void midIs(SluiceLevels x, int b, int p, int upper, int lower) {
        Due.part(x, "mid(" + b + ", " + p + ")", x.mid(b, p), upper, lower);
    }

    private static void mid() {
        Sentences.of(36, "The mean of the LEVEL of a BASIN behind it: 1.");
        SluiceLevels x = Due.with("h20g9100");
        midIs(x, 0, 0, 11, 1);
        midIs(x, 0, 12, 20, 1);
        midIs(x, 0, 6, 31, 2);
        midIs(x, 0, 4, 14, 1);
        midIs(x, 1, 4, 6, 1);
        midIs(x, 1, 12, 0, 1);
        midIs(x, 1, 1, 33, 4);
        SluiceLevels none = Due.with("h00g9000");
        midIs(none, 0, 5, 0, 1);
        SluiceLevels weir = Due.with("h20w9000g9100");
        midIs(weir, 0, 6, 33, 2);
        midIs(weir, 2, 6, 3, 4);
        midIs(weir, 1, 6, 11, 4);
        SluiceLevels full = Due.with("h60g9060g9060g9060g9060g9060g9060");
        midIs(full, 6, 11, 60, 1);
        for (int i = 0; i < 6; i++) {
            full.wind(i);
        }
        midIs(full, 6, 11, 60, 1);
        midIs(full, 0, 1, 60, 1);
        SluiceLevels drops = Due.with("h60g1100g1100g1100g1100g1100g1159");
        // BASIN 5 has 1 by GATE 5 alone, if it does not stick.
        midIs(drops, 5, 5, 7, 12);
        midIs(drops, 0, 1, 709, 12);
        Due.aside(drops, "mid", () -> drops.mid(0, 1));
        Due.is("nothing by asked()", drops.asked(), 0);
    }

    private static void midRefused() {
        Sentences.of(36, "BAD;");
        SluiceLevels x = Due.with("h20g9100");
        x.mid(0, 6);
        Due.refuses(x, "b 2", () -> x.mid(2, 1), Due.BAD);
        Due.refuses(x, "b -1", () -> x.mid(-1, 1), Due.BAD);
        Due.refuses(x, "b SMALL", () -> x.mid(SMALL, 1), Due.BAD);
        Due.refuses(x, "p -1", () -> x.mid(0, -1), Due.BAD);
        Due.refuses(x, "p 13", () -> x.mid(0, 13), Due.BAD);
        Due.refuses(x, "p SMALL", () -> x.mid(0, SMALL), Due.BAD);
        Sentences.of(36, "STATE: no GATES.");
        SluiceLevels none = new SluiceLevels();
        Due.refuses(none, "no GATES", () -> none.mid(0, 0), Due.STATE);
        Sentences.of(36, "(STATE first.)");
        Due.refuses(none, "and no BASIN", () -> none.mid(1, 0), Due.STATE);
        Due.refuses(none, "and no chance", () -> none.mid(0, 13), Due.STATE);
    }

    /** What n LOTS of a seed do, done by calls of its own: as far as these let through what is refused elsewhere. */
    private static void doAsLots(SluiceLevels x, int n, int seed) {
        long lot = seed;
        for (int k = 0; k < n; k++) {
            lot = lot * FACTOR % MODULUS;
            int gates = x.count(0);
            switch ((int) (lot / 8 % 8)) {
                case 0, 1, 2, 3 -> x.turn();
                case 4, 5 -> x.wind((int) (lot % gates));
                case 6 -> x.rain((int) (lot / 64 % (gates + 1)), 5);
                default -> x.draw((int) (lot / 64 % (gates + 1)), 5);
            }
        }
    }

    private static void lotsAreAs(String bridge, int n, int seed) {
        SluiceLevels x = Due.with(bridge);
        SluiceLevels y = Due.with(bridge);
        doAsLots(y, n, seed);
        y.basin(0);
        Due.is("lots(" + n + ", " + seed + ") of " + bridge, x.lots(n, seed), y.asked());
        Due.is("TURNS", x.count(1), y.count(1));
        Due.is("OPEN", x.count(3), y.count(3));
        Due.is("DEEDS, each of them", x.count(2), n);
        for (int b = 0; b <= x.count(0); b++) {
            y.basin(b);
            Due.tells(x, "BASIN " + b, x.basin(b), y.asked());
        }
    }

    private static void numbersOfLots() {
        Sentences.of(Sentences.TERMS, "3 LOTS: a number comes from the one ahead by 48271 times it modulo 2147483647, "
            + "the first from a seed (1 .. 2147483646).");
        int[] seeds = {1, 2, 3, 2147483646, 2147483645, 1073741824, 48271, 182605794};
        for (int seed : seeds) {
            lotsAreAs("h30g9110s4020w5140", 20, seed);
            lotsAreAs(SIX, 20, seed);
        }
        // 48271, 182605794, 1291394886, 1914720637, 2078669041 from seed 1; by 8, modulo 8: 1, 4, 0, 7, 6.
        SluiceLevels x = Due.with("h20g9100");
        Due.is("a TURN", x.lots(1, 1), 11);
        x.undo(0);
        Due.is("and GATE 0 is WOUND", x.lots(2, 1), 11);
        Due.is("shut", x.count(3), 0);
        x.undo(0);
        x.lots(3, 1);
        Due.is("and a TURN", x.count(1), 2);
        x.undo(0);
        // 1914720637 by 64: 29917509, odd: BASIN 1 has 5 less.
        x.lots(4, 1);
        Due.levels(x, "and 5 less", 11, 4);
        x.undo(0);
        // 2078669041 by 64: 32479203, odd: BASIN 1 has 5 more.
        x.lots(5, 1);
        Due.levels(x, "and 5 more", 11, 9);
    }

    private static void lotByLot() {
        Sentences.of(37, "n (1 .. 20) DEEDS truly by LOTS of a seed: for each a number (each a DEED, also where nothing becomes other by it): "
            + "by what it by 8, cut, modulo 8 is: 0 to 3 a TURN, 4, 5 GATE it modulo how many there are is WOUND (no WEIR),");
        int[] seen = new int[8];
        for (int seed = 1; seed <= 120; seed++) {
            long lot = seed * FACTOR % MODULUS;
            int which = (int) (lot / 8 % 8);
            seen[which]++;
            SluiceLevels x = Due.with("h20g9100w9000s9000");
            int level = x.lots(1, seed);
            int gate = (int) (lot % 3);
            if (which <= 3) {
                Due.is("a TURN, by " + which, level, 11);
                Due.is("TURNS, by " + which, x.count(1), 1);
                Due.is("OPEN yet, by " + which, x.count(3), 3);
            } else if (which <= 5) {
                Due.is("no TURN, by " + which, x.count(1), 0);
                Due.is("OPEN, by " + which + " of GATE " + gate, x.count(3), gate == 1 ? 3 : 3 ^ 1 << gate);
                Due.is("no water, by " + which, level, 20);
            } else {
                Due.is("neither, by " + which, x.count(1) + x.count(3), 3);
            }
            Due.is("a DEED, by " + which, x.count(2), 1);
            Due.is("undone, by " + which, x.undo(0), 1);
            Due.is("OPEN as ahead, by " + which, x.count(3), 3);
        }
        for (int which = 0; which < 8; which++) {
            Due.is("some of " + which, seen[which] > 1 ? 1 : 0, 1);
        }
    }

    private static void lotsOfLevels() {
        Sentences.of(37, "6, 7 the BASIN that it by 64, cut, modulo how many there are is has 5 more (6; 60 at most), 5 less (7; 0 at least): "
            + "the LEVEL of BASIN 0 then.");
        int[][] ahead = {{2, 58, 30}, {60, 0, 4}, {55, 5, 56}, {0, 60, 1}};
        String[] bridges = {"h02g9058g9030", "h60g9000g9004", "h55g9005g9056", "h00g9060g9001"};
        int[][] seen = new int[2][3];
        for (int seed = 1; seed <= 200; seed++) {
            long lot = seed * FACTOR % MODULUS;
            int which = (int) (lot / 8 % 8);
            int b = (int) (lot / 64 % 3);
            for (int k = 0; k < bridges.length && which >= 6; k++) {
                seen[which - 6][b]++;
                SluiceLevels x = Due.with(bridges[k]);
                int[] due = ahead[k].clone();
                due[b] = which == 6 ? Math.min(60, due[b] + 5) : Math.max(0, due[b] - 5);
                Due.is("BASIN 0 of " + bridges[k] + " by seed " + seed, x.lots(1, seed), due[0]);
                Due.levels(x, bridges[k] + " by seed " + seed, due);
                Due.is("a DEED", x.count(2), 1);
            }
        }
        for (int b = 0; b < 3; b++) {
            Due.is("5 more to BASIN " + b, seen[0][b] > 0 ? 1 : 0, 1);
            Due.is("5 less of BASIN " + b, seen[1][b] > 0 ? 1 : 0, 1);
        }
    }

    private static void lotsAreDeeds() {
        Sentences.of(37, "BAD; STATE: no GATES; FULL: with n more there would be more than 40 DEEDS.");
        SluiceLevels x = Due.with("h20g9110");
        int[] bad = {0, 21, -1, BIG, SMALL};
        for (int n : bad) {
            Due.refuses(x, "lots(" + n + ", 1)", () -> x.lots(n, 1), Due.BAD);
        }
        int[] seeds = {0, -1, BIG, SMALL};
        for (int seed : seeds) {
            Due.refuses(x, "lots(1, " + seed + ")", () -> x.lots(1, seed), Due.BAD);
        }
        SluiceLevels none = new SluiceLevels();
        Due.refuses(none, "no GATES", () -> none.lots(1, 1), Due.STATE);
        SluiceLevels y = Due.with("h20g9110");
        Due.is("the greatest seed", y.lots(20, 2147483646) >= 0 ? 1 : 0, 1);
        Due.is("twenty DEEDS", y.count(2), 20);
        y.turn();
        Due.refuses(y, "20 more than 21", () -> y.lots(20, 1), Due.FULL);
        Due.is("19 more", y.lots(19, 1) >= 0 ? 1 : 0, 1);
        Due.is("forty", y.count(2), 40);
        Due.refuses(y, "1 more than 40", () -> y.lots(1, 1), Due.FULL);
        y.undo(39);
        Due.refuses(y, "2 more than 39", () -> y.lots(2, 1), Due.FULL);
        Due.is("1 more than 39", y.lots(1, 1) >= 0 ? 1 : 0, 1);
        Due.is("forty again", y.undo(0), 40);
        Due.levels(y, "all undone", 20, 10);
    }

    private static void lotsRefused() {
        Sentences.of(37, "(FULL last.)");
        SluiceLevels none = new SluiceLevels();
        Due.refuses(none, "BAD ahead of STATE, n", () -> none.lots(0, 1), Due.BAD);
        Due.refuses(none, "BAD ahead of STATE, the seed", () -> none.lots(1, 0), Due.BAD);
        SluiceLevels x = Due.with("h20g9110");
        x.lots(20, 1);
        x.lots(20, 1);
        Due.refuses(x, "full", () -> x.lots(20, 1), Due.FULL);
        Due.refuses(x, "BAD ahead of FULL, n", () -> x.lots(21, 1), Due.BAD);
        Due.refuses(x, "BAD ahead of FULL, the seed", () -> x.lots(1, BIG), Due.BAD);
    }
}

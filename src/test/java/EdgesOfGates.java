/** KINDS of GATES, TURNS, and promises 12 to 14, 22, sentence by sentence: the edges. */
final class EdgesOfGates {
    private static final int BIG = Integer.MAX_VALUE, SMALL = Integer.MIN_VALUE;
    private static final String SIX = "h40g5110s3125p2107w4030l6119e1102";

    private EdgesOfGates() {
    }

    static void all() {
        kindsAndLetters();
        flowOfAGate();
        flowOfASluice();
        flowOfAPump();
        flowOfAWeir();
        flowOfALock();
        flowOfAnEngine();
        noMoreThanThereIs();
        basin();
        gate();
        gateFlow();
        gateRefused();
        markOfASluice();
        markOfAPump();
        markOfAWeir();
        markInTurns();
        markRefused();
        flows();
        flowsRefused();
    }

    /** A GATE of that letter is of that KIND, and IS of another one as well (NONE: of none that mark() can be asked for). */
    private static void letter(String words, char letter, int kind, int is) {
        Sentences.of(Sentences.TERMS, words);
        SluiceLevels x = new SluiceLevels();
        x.text(0, 8);
        String text = "h40" + letter + "5110";
        for (int i = 0; i < 8; i++) {
            x.put(0, i, i == 3 ? letter : text.charAt(i));
        }
        Due.is("one GATE by " + letter, x.bridge(0), 1);
        Due.tells(x, "the KIND", x.gate(0, 0), kind);
        for (int k = 1; k <= 5; k++) {
            int asked = k;
            if (k == kind || k == is) {
                Due.aside(x, "it IS a " + k, () -> x.mark(0, asked));
            } else {
                Due.finds(x, "it is no " + k, () -> x.mark(0, asked), Due.UNLIKE);
            }
        }
        Due.is("SLUICES", x.count(6), kind == 1 || is == 1 ? 1 : 0);
        Due.is("PUMPS", x.count(7), kind == 2 || is == 2 ? 1 : 0);
    }

    private static void kindsAndLetters() {
        Sentences.of(Sentences.TERMS, "KINDS of GATES and letters:");
        SluiceLevels x = Due.with(SIX);
        for (int i = 0; i < 6; i++) {
            Due.tells(x, "KIND of " + "gspwle".charAt(i), x.gate(i, 0), i);
        }
        letter("0 GATE (g, 103),", (char) 103, 0, Due.NONE);
        letter("1 SLUICE (s, 115; a GATE),", (char) 115, 1, Due.NONE);
        letter("2 PUMP (p, 112; a GATE),", (char) 112, 2, Due.NONE);
        letter("3 WEIR (w, 119; a GATE),", (char) 119, 3, Due.NONE);
        letter("4 LOCK (l, 108; a SLUICE),", (char) 108, 4, 1);
        letter("5 ENGINE (e, 101; a PUMP).", (char) 101, 5, 2);
    }

    private static void flowsAre(SluiceLevels x, int ahead, int behind, int number, int want) {
        Due.is("flows of " + ahead + ", " + behind + " in TURN " + number, x.flows(0, ahead, behind, number), want);
    }

    private static void flowOfAGate() {
        Sentences.of(Sentences.TERMS, "Of BASINS at two LEVELS a GATE that is OPEN lets half of the DIFFERENCE (cut), its WIDTH at most, "
            + "from the higher to the lower one.");
        SluiceLevels x = Due.with("h00g3000");
        int[] apart = {0, 1, 2, 3, 4, 5, 6, 7, 8, 9, 60};
        int[] through = {0, 0, 1, 1, 2, 2, 3, 3, 3, 3, 3};
        for (int k = 0; k < apart.length; k++) {
            flowsAre(x, apart[k], 0, 1, through[k]);
            flowsAre(x, 0, apart[k], 1, -through[k]);
            flowsAre(x, 60, 60 - apart[k], 0, through[k]);
            flowsAre(x, 60 - apart[k], 60, 0, -through[k]);
        }
        SluiceLevels wide = Due.with("h00g9000");
        flowsAre(wide, 17, 0, 0, 8);
        flowsAre(wide, 18, 0, 0, 9);
        flowsAre(wide, 20, 0, 0, 9);
        flowsAre(wide, 0, 19, 0, -9);
        SluiceLevels narrow = Due.with("h00g1000");
        flowsAre(narrow, 60, 0, 0, 1);
        flowsAre(narrow, 0, 2, 0, -1);
        SluiceLevels shut = Due.with("h40g9010");
        Due.is("none, shut", shut.turn(), 0);
        Due.levels(shut, "shut", 40, 10);
    }

    private static void flowOfASluice() {
        Sentences.of(Sentences.TERMS, "A SLUICE as a GATE, but from the BASIN ahead of it to that behind it alone.");
        SluiceLevels x = Due.with("h00s3000");
        flowsAre(x, 0, 0, 0, 0);
        flowsAre(x, 1, 0, 1, 0);
        flowsAre(x, 5, 0, 1, 2);
        flowsAre(x, 6, 0, 0, 3);
        flowsAre(x, 60, 0, 0, 3);
        flowsAre(x, 0, 1, 0, 0);
        flowsAre(x, 0, 2, 0, 0);
        flowsAre(x, 0, 60, 1, 0);
        flowsAre(x, 59, 60, 1, 0);
    }

    private static void flowOfAPump() {
        Sentences.of(Sentences.TERMS, "A PUMP its WIDTH from that behind it to that ahead of it, whatever the LEVELS.");
        SluiceLevels x = Due.with("h00p3000");
        flowsAre(x, 0, 60, 0, -3);
        flowsAre(x, 30, 30, 1, -3);
        flowsAre(x, 57, 3, 2, -3);
        flowsAre(x, 30, 31, 3, -3);
        flowsAre(x, 31, 30, 4, -3);
    }

    private static void flowOfAWeir() {
        Sentences.of(Sentences.TERMS, "A WEIR, always OPEN, as a GATE of a DIFFERENCE that is 5 less (0 at least).");
        SluiceLevels x = Due.with("h00w3000");
        int[] apart = {0, 1, 2, 3, 4, 5, 6, 7, 8, 9, 10, 11, 12, 60};
        int[] through = {0, 0, 0, 0, 0, 0, 0, 1, 1, 2, 2, 3, 3, 3};
        for (int k = 0; k < apart.length; k++) {
            flowsAre(x, apart[k], 0, 1, through[k]);
            flowsAre(x, 60 - apart[k], 60, 0, -through[k]);
        }
        SluiceLevels told = Due.with("h40w3010w3140");
        Due.is("told as shut, it is OPEN", told.count(3), 3);
        Due.is("and lets through", told.turn(), 3);
        Due.levels(told, "both", 37, 16, 37);
    }

    private static void flowOfALock() {
        Sentences.of(Sentences.TERMS, "A LOCK as a SLUICE in TURNS of even numbers, else nothing.");
        SluiceLevels x = Due.with("h00l3000");
        int[] even = {0, 2, 4, 6, 98};
        for (int number : even) {
            flowsAre(x, 60, 0, number, 3);
            flowsAre(x, 5, 0, number, 2);
            flowsAre(x, 0, 60, number, 0);
            flowsAre(x, 60, 0, number + 1, 0);
            flowsAre(x, 0, 60, number + 1, 0);
        }
        SluiceLevels turned = Due.with("h40l3110");
        Due.is("TURN 0", turned.turn(), 1);
        Due.is("TURN 1", turned.turn(), 0);
        Due.is("TURN 2", turned.turn(), 1);
        Due.levels(turned, "behind three", 34, 16);
    }

    private static void flowOfAnEngine() {
        Sentences.of(Sentences.TERMS, "An ENGINE as a PUMP, twice as much in TURNS that 3 divides.");
        SluiceLevels x = Due.with("h00e9000");
        int[] numbers = {0, 1, 2, 3, 4, 5, 6, 96, 97, 98, 99};
        int[] through = {18, 9, 9, 18, 9, 9, 18, 18, 9, 9, 18};
        for (int k = 0; k < numbers.length; k++) {
            flowsAre(x, 0, 60, numbers[k], -through[k]);
            flowsAre(x, 30, 20, numbers[k], -through[k]);
        }
        SluiceLevels turned = Due.with("h00e2160");
        int[] ahead = {4, 6, 8, 12, 14};
        for (int t = 0; t < ahead.length; t++) {
            turned.turn();
            Due.levels(turned, "behind TURN " + t, ahead[t], 60 - ahead[t]);
        }
    }

    private static void noMoreThanThereIs() {
        Sentences.of(Sentences.TERMS, "No more than there is in the one, or than there is room for (60) in the other.");
        SluiceLevels pump = Due.with("h00p5000");
        flowsAre(pump, 0, 0, 0, 0);
        flowsAre(pump, 0, 4, 0, -4);
        flowsAre(pump, 0, 5, 0, -5);
        flowsAre(pump, 60, 60, 0, 0);
        flowsAre(pump, 59, 60, 0, -1);
        flowsAre(pump, 56, 60, 0, -4);
        flowsAre(pump, 55, 60, 0, -5);
        flowsAre(pump, 57, 2, 0, -2);
        flowsAre(pump, 58, 3, 0, -2);
        SluiceLevels engine = Due.with("h00e5000");
        flowsAre(engine, 0, 0, 3, 0);
        flowsAre(engine, 0, 9, 3, -9);
        flowsAre(engine, 51, 60, 3, -9);
        flowsAre(engine, 50, 60, 3, -10);
        flowsAre(engine, 60, 60, 3, 0);
        flowsAre(engine, 56, 4, 1, -4);
        SluiceLevels turned = Due.with("h59p9108e9102");
        Due.is("the last drop and the last room", turned.turn(), 3);
        Due.levels(turned, "full and empty", 60, 9, 0);
        Due.is("no room, no water", turned.turn(), 0);
    }

    private static void basin() {
        Sentences.of(12, "The LEVEL of a BASIN (0 up to how many GATES there are), told by asked(): 1.");
        SluiceLevels x = Due.with(SIX);
        Due.levels(x, "at first", 40, 10, 25, 7, 30, 19, 2);
        SluiceLevels one = Due.with("h00g1060");
        Due.levels(one, "empty and full", 0, 60);
        Due.aside(one, "basin", () -> one.basin(1));
        Sentences.of(12, "BAD;");
        Due.refuses(one, "basin(2) of one GATE", () -> one.basin(2), Due.BAD);
        Due.refuses(x, "basin(7) of six", () -> x.basin(7), Due.BAD);
        Due.refuses(x, "basin(-1)", () -> x.basin(-1), Due.BAD);
        Due.refuses(x, "basin(BIG)", () -> x.basin(BIG), Due.BAD);
        Due.refuses(x, "basin(SMALL)", () -> x.basin(SMALL), Due.BAD);
        Sentences.of(12, "STATE: no GATES.");
        SluiceLevels none = new SluiceLevels();
        Due.refuses(none, "basin(0)", () -> none.basin(0), Due.STATE);
        Sentences.of(12, "(STATE first.)");
        Due.refuses(none, "basin(-1)", () -> none.basin(-1), Due.STATE);
        Due.refuses(none, "basin(1)", () -> none.basin(1), Due.STATE);
    }

    private static void gate() {
        Sentences.of(13, "Of a GATE: 0 the KIND,");
        SluiceLevels x = Due.with(SIX);
        SluiceLevels back = Due.with("h40e9010l8010w7010p6110s5110g4110");
        for (int i = 0; i < 6; i++) {
            Due.tells(x, "gate(" + i + ", 0)", x.gate(i, 0), i);
            Due.tells(back, "gate(" + i + ", 0) the other way round", back.gate(i, 0), 5 - i);
        }
        Sentences.of(13, "1 the WIDTH,");
        int[] widths = {5, 3, 2, 4, 6, 1};
        for (int i = 0; i < 6; i++) {
            Due.tells(x, "gate(" + i + ", 1)", x.gate(i, 1), widths[i]);
            Due.tells(back, "gate(" + i + ", 1) the other way round", back.gate(i, 1), 9 - i);
        }
        Sentences.of(13, "2 whether it is OPEN (1, 0; a WEIR 1),");
        int[] open = {0, 0, 1, 1, 1, 1};
        for (int i = 0; i < 6; i++) {
            Due.tells(x, "gate(" + i + ", 2)", x.gate(i, 2), 1);
            Due.tells(back, "gate(" + i + ", 2) the other way round", back.gate(i, 2), open[i]);
        }
        back.wind(0);
        back.wind(5);
        Due.tells(back, "OPEN since", back.gate(0, 2), 1);
        Due.tells(back, "shut since", back.gate(5, 2), 0);
    }

    private static void gateFlow() {
        Sentences.of(13, "3 how much it would let through now, were it next (none, if it is shut), "
            + "from the BASIN ahead of it (below 0: from that behind it), told by asked(): 1.");
        SluiceLevels x = Due.with(SIX);
        int[] through = {5, 0, -2, -4, 5, -2};
        for (int i = 0; i < 6; i++) {
            Due.tells(x, "gate(" + i + ", 3)", x.gate(i, 3), through[i]);
        }
        Due.aside(x, "gate", () -> x.gate(4, 0));
        // By the LEVELS as they are, though GATE 0 would bring 9 first.
        SluiceLevels dry = Due.with("h20g9100g9100");
        Due.tells(dry, "nothing there yet", dry.gate(1, 3), 0);
        SluiceLevels shut = Due.with("h40g9010s9010p9010w9040l9010e9010");
        int[] none = {0, 0, 0, -9, 0, 0};
        for (int i = 0; i < 6; i++) {
            Due.tells(shut, "gate(" + i + ", 3), shut", shut.gate(i, 3), none[i]);
        }
        SluiceLevels turned = Due.with("h60l9100e9160");
        turned.turn();
        Due.tells(turned, "a LOCK in TURN 1", turned.gate(0, 3), 0);
        Due.tells(turned, "an ENGINE in TURN 1", turned.gate(1, 3), -9);
        turned.turn();
        turned.turn();
        // 44 52 24: there is room for 8.
        Due.tells(turned, "an ENGINE in TURN 3", turned.gate(1, 3), -8);
        turned.draw(1, 9);
        turned.draw(1, 9);
        Due.tells(turned, "with room for 26", turned.gate(1, 3), -18);
    }

    private static void gateRefused() {
        Sentences.of(13, "BAD.");
        SluiceLevels x = Due.with("h40g5110s3125");
        Due.refuses(x, "gate(2, 0)", () -> x.gate(2, 0), Due.BAD);
        Due.refuses(x, "gate(-1, 0)", () -> x.gate(-1, 0), Due.BAD);
        Due.refuses(x, "gate(BIG, 0)", () -> x.gate(BIG, 0), Due.BAD);
        Due.refuses(x, "gate(SMALL, 0)", () -> x.gate(SMALL, 0), Due.BAD);
        Due.refuses(x, "gate(0, 4)", () -> x.gate(0, 4), Due.BAD);
        Due.refuses(x, "gate(0, -1)", () -> x.gate(0, -1), Due.BAD);
        Due.refuses(x, "gate(0, BIG)", () -> x.gate(0, BIG), Due.BAD);
        Due.refuses(x, "gate(0, SMALL)", () -> x.gate(0, SMALL), Due.BAD);
        SluiceLevels none = new SluiceLevels();
        Due.refuses(none, "gate(0, 0) of none", () -> none.gate(0, 0), Due.BAD);
        SluiceLevels six = Due.with(SIX);
        Due.refuses(six, "gate(6, 0) of six", () -> six.gate(6, 0), Due.BAD);
    }

    /** mark() of one GATE, OPEN and shut, with such LEVELS. */
    private static void marksAre(String bridge, int kind, int want) {
        SluiceLevels x = Due.with(bridge);
        Due.is("mark(0, " + kind + ") of " + bridge, x.mark(0, kind), want);
        Due.aside(x, "mark", () -> x.mark(0, kind));
        if (bridge.charAt(3) != 'w') {
            x.wind(0);
            Due.is("mark(0, " + kind + ") of " + bridge + ", wound", x.mark(0, kind), want);
        }
        Due.is("nothing by asked()", x.asked(), 0);
    }

    private static void markOfASluice() {
        Sentences.of(14, "What a GATE that IS of a KIND tells: a SLUICE (LOCK, too) how much less than a GATE it would let through now, "
            + "either way, were both OPEN,");
        marksAre("h40s5110", 1, 0);
        marksAre("h10s5140", 1, 5);
        marksAre("h10s5013", 1, 1);
        marksAre("h10s5111", 1, 0);
        marksAre("h10s5110", 1, 0);
        marksAre("h40l5110", 1, 0);
        marksAre("h10l5140", 1, 5);
        SluiceLevels x = Due.with("h30l5114s5130");
        x.rain(0, 1);
        x.turn();
        Due.levels(x, "TURN 1 is next", 26, 19, 30);
        Due.is("a LOCK that rests, down", x.mark(0, 1), 3);
        Due.is("a SLUICE, up", x.mark(1, 1), 5);
        x.undo(1);
        Due.is("a LOCK that does not", x.mark(0, 1), 0);
        x.draw(0, 9);
        x.draw(0, 9);
        x.draw(0, 9);
        x.turn();
        Due.levels(x, "TURN 1 is next", 4, 14, 30);
        Due.is("a LOCK that rests, up", x.mark(0, 1), 5);
        SluiceLevels narrow = Due.with("h10s9110s2140");
        Due.is("by its own WIDTH", narrow.mark(1, 1), 2);
    }

    private static void markOfAPump() {
        Sentences.of(14, "a PUMP (ENGINE, too) how much room there is yet in the BASIN ahead of it,");
        marksAre("h00p5110", 2, 60);
        marksAre("h60p5110", 2, 0);
        marksAre("h59p5100", 2, 1);
        marksAre("h40e5160", 2, 20);
    }

    private static void markOfAWeir() {
        Sentences.of(14, "a WEIR how much the LEVELS are apart,");
        marksAre("h40w5110", 3, 30);
        marksAre("h10w5040", 3, 30);
        marksAre("h10w5111", 3, 1);
        marksAre("h10w5010", 3, 0);
        marksAre("h60w1000", 3, 60);
    }

    private static void markInTurns() {
        Sentences.of(14, "a LOCK in how many TURNS it lets nothing through next (0, 1),");
        SluiceLevels x = Due.with("h40l5110e5110l5040e5040");
        int[] quiet = {1, 0, 1, 0, 1, 0, 1};
        for (int t = 0; t < quiet.length; t++) {
            Due.is("OPEN, TURN " + t + " is next", x.mark(0, 4), quiet[t]);
            Due.is("shut, TURN " + t + " is next", x.mark(2, 4), quiet[t]);
            x.turn();
        }
        x.undo(0);
        Sentences.of(14, "an ENGINE in how many it lets twice as much through next (0, 1, 2).");
        int[] twice = {0, 2, 1, 0, 2, 1, 0};
        for (int t = 0; t < twice.length; t++) {
            Due.is("OPEN, TURN " + t + " is next", x.mark(1, 5), twice[t]);
            Due.is("shut, TURN " + t + " is next", x.mark(3, 5), twice[t]);
            x.turn();
        }
    }

    private static void markRefused() {
        Sentences.of(14, "BAD: also KIND 0;");
        SluiceLevels x = Due.with(SIX);
        Due.refuses(x, "mark(0, 0)", () -> x.mark(0, 0), Due.BAD);
        Due.refuses(x, "mark(3, 0)", () -> x.mark(3, 0), Due.BAD);
        Due.refuses(x, "mark(0, -1)", () -> x.mark(0, -1), Due.BAD);
        Due.refuses(x, "mark(5, 6)", () -> x.mark(5, 6), Due.BAD);
        Due.refuses(x, "mark(0, BIG)", () -> x.mark(0, BIG), Due.BAD);
        Due.refuses(x, "mark(0, SMALL)", () -> x.mark(0, SMALL), Due.BAD);
        Due.refuses(x, "mark(6, 1)", () -> x.mark(6, 1), Due.BAD);
        Due.refuses(x, "mark(-1, 1)", () -> x.mark(-1, 1), Due.BAD);
        Due.refuses(x, "mark(BIG, 1)", () -> x.mark(BIG, 1), Due.BAD);
        SluiceLevels none = new SluiceLevels();
        Due.refuses(none, "mark(0, 1) of none", () -> none.mark(0, 1), Due.BAD);
        Sentences.of(14, "UNLIKE.");
        Due.finds(x, "a GATE is no SLUICE", () -> x.mark(0, 1), Due.UNLIKE);
        Due.finds(x, "a SLUICE is no LOCK", () -> x.mark(1, 4), Due.UNLIKE);
        Due.finds(x, "a PUMP is no ENGINE", () -> x.mark(2, 5), Due.UNLIKE);
        Due.finds(x, "a WEIR is no PUMP", () -> x.mark(3, 2), Due.UNLIKE);
        Due.finds(x, "a LOCK is no WEIR", () -> x.mark(4, 3), Due.UNLIKE);
        Due.finds(x, "an ENGINE is no LOCK", () -> x.mark(5, 4), Due.UNLIKE);
    }

    private static void flows() {
        Sentences.of(22, "How much a GATE would let through, were it OPEN, of two LEVELS (0 .. 60, ahead of it, behind it) "
            + "in a TURN of a number (0 .. 99), from that ahead (below 0: from that behind).");
        SluiceLevels x = Due.with("h40g5010s3025p2007w4030l6019e1002");
        int[] down = {5, 3, -2, 4, 6, -2};
        int[] up = {-5, 0, -2, -4, 0, -2};
        int[] last = {5, 3, 0, 4, 0, 0};
        for (int i = 0; i < 6; i++) {
            Due.is("GATE " + i + ", 50, 20", x.flows(i, 50, 20, 0), down[i]);
            Due.is("GATE " + i + ", 20, 50", x.flows(i, 20, 50, 0), up[i]);
            Due.is("GATE " + i + ", 60, 0, 99", x.flows(i, 60, 0, 99), last[i]);
            Due.is("GATE " + i + ", 0, 0", x.flows(i, 0, 0, 99), 0);
        }
        x.turn();
        Due.is("the TURN is as asked, not as it is", x.flows(4, 50, 20, 2), 6);
        Due.is("nothing by asked()", x.asked(), 0);
        Due.aside(x, "flows", () -> x.flows(0, 60, 0, 0));
    }

    private static void flowsRefused() {
        Sentences.of(22, "BAD.");
        SluiceLevels x = Due.with("h40g5110s5110");
        Due.refuses(x, "GATE 2", () -> x.flows(2, 0, 0, 0), Due.BAD);
        Due.refuses(x, "GATE -1", () -> x.flows(-1, 0, 0, 0), Due.BAD);
        Due.refuses(x, "GATE BIG", () -> x.flows(BIG, 0, 0, 0), Due.BAD);
        Due.refuses(x, "GATE SMALL", () -> x.flows(SMALL, 0, 0, 0), Due.BAD);
        Due.refuses(x, "ahead -1", () -> x.flows(0, -1, 0, 0), Due.BAD);
        Due.refuses(x, "ahead 61", () -> x.flows(0, 61, 0, 0), Due.BAD);
        Due.refuses(x, "ahead BIG", () -> x.flows(0, BIG, 0, 0), Due.BAD);
        Due.refuses(x, "behind -1", () -> x.flows(0, 0, -1, 0), Due.BAD);
        Due.refuses(x, "behind 61", () -> x.flows(0, 0, 61, 0), Due.BAD);
        Due.refuses(x, "behind SMALL", () -> x.flows(0, 0, SMALL, 0), Due.BAD);
        Due.refuses(x, "number -1", () -> x.flows(0, 0, 0, -1), Due.BAD);
        Due.refuses(x, "number 100", () -> x.flows(0, 0, 0, 100), Due.BAD);
        Due.refuses(x, "number BIG", () -> x.flows(0, 0, 0, BIG), Due.BAD);
        SluiceLevels none = new SluiceLevels();
        Due.refuses(none, "of no GATES", () -> none.flows(0, 0, 0, 0), Due.BAD);
    }
}

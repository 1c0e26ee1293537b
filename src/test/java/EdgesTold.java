import java.math.BigInteger;

/** ANSWERS and promises 38 to 44, sentence by sentence: the edges of what is told. */
final class EdgesTold {
    private static final int BIG = Integer.MAX_VALUE, SMALL = Integer.MIN_VALUE;
    private static final String SIX = "h40g5110s3125p2107w4030l6119e1102";

    private EdgesTold() {
    }

    static void all() {
        calls();
        constants();
        whatIsRefused();
        nothing();
        beyond();
        unlike();
        nought();
        size();
        lowestTerms();
        bits();
        askedByEach();
        askedNotByRefused();
        askedNotByOthers();
        upper();
        lower();
        count();
        countOfNone();
        countRefused();
        finding();
        findings();
        digest();
        digestOfKept();
        digestWithout();
    }

    private static void calls() {
        Sentences.ofWhatItIs("An object is used for at most 512 calls after it has been made; what later calls answer is free.");
        SluiceLevels x = new SluiceLevels();
        x.row(0, 1);
        for (int call = 2; call <= 511; call++) {
            Due.is("call " + call, x.lay(0, 0, call), 1);
        }
        Due.is("call 512", x.asked(), 510);
        SluiceLevels refused = new SluiceLevels();
        for (int call = 1; call <= 510; call++) {
            Due.is("call " + call, refused.tear(0), Due.FINDING);
        }
        Due.is("call 511", refused.findings(1), 510);
        Due.is("call 512", refused.row(5, 40), 40);
    }

    private static void constants() {
        Sentences.of(Sentences.TERMS, "ANSWERS. Refused is, the first of these that fits, in this order: BAD -1 (a number that is none, or not as told), "
            + "FULL -2, STATE -4 (not now), SPENT -6 (more than told), FINDING -3 (finding() tells which), unless a call says so otherwise.");
        Due.is("BAD", SluiceLevels.BAD, -1);
        Due.is("FULL", SluiceLevels.FULL, -2);
        Due.is("STATE", SluiceLevels.STATE, -4);
        Due.is("SPENT", SluiceLevels.SPENT, -6);
        Due.is("FINDING", SluiceLevels.FINDING, -3);
        SluiceLevels none = new SluiceLevels();
        Due.refuses(none, "keep: BAD ahead of STATE", () -> none.keep(3), Due.BAD);
        Due.refuses(none, "sets: BAD ahead of STATE", () -> none.sets(55), Due.BAD);
        Due.refuses(none, "duel: BAD ahead of STATE", () -> none.duel(3), Due.BAD);
        Due.refuses(none, "lots: BAD ahead of STATE", () -> none.lots(1, 0), Due.BAD);
        Due.refuses(none, "wind: BAD", () -> none.wind(0), Due.BAD);
        Due.refuses(none, "row: BAD ahead of FINDING", () -> none.row(6, -1), Due.BAD);
        Due.refuses(none, "on: BAD ahead of FINDING", () -> none.on(3), Due.BAD);
        SluiceLevels x = Due.with("h20g9100");
        Due.refuses(x, "mark: BAD ahead of FINDING", () -> x.mark(1, 1), Due.BAD);
        Due.refuses(x, "mark: BAD ahead of FINDING", () -> x.mark(0, 0), Due.BAD);
        Sentences.of(Sentences.TERMS, "NONE -9.");
        Due.is("NONE", SluiceLevels.NONE, -9);
    }

    private static void whatIsRefused() {
        Sentences.of(Sentences.TERMS, "What is refused changes nothing but finding(), findings().");
        SluiceLevels x = Due.with("h20g9100w9010");
        Due.fill(x, 0, 1, 61);
        x.wind(0);
        x.keep(1);
        x.turn();
        x.mid(0, 6);
        x.basin(0);
        Due.refuses(x, "BAD", () -> x.rain(0, 10), Due.BAD);
        Due.refuses(x, "STATE", () -> x.wind(1), Due.STATE);
        Due.finds(x, "NOTHING", () -> x.on(0), Due.NOTHING);
        Due.finds(x, "BEYOND", () -> x.lay(0, 2, 9), Due.BEYOND);
        Due.finds(x, "UNLIKE", () -> x.opens(0, 0), Due.UNLIKE);
        Due.finds(x, "NOUGHT", () -> x.surely(1), Due.NOUGHT);
        Due.finds(x, "SIZE", () -> x.copy(0, 0, 0, 1, -1), Due.SIZE);
        Due.finds(x, "NOTHING again", () -> x.bridge(2), Due.NOTHING);
        for (int n = x.count(2); n < 40; n++) {
            x.rain(0, 1);
        }
        Due.refuses(x, "FULL", () -> x.turn(), Due.FULL);
        Due.refuses(x, "FULL by lots", () -> x.lots(1, 1), Due.FULL);
        Due.is("DEEDS are undone to where they were", x.undo(1), 39);
        Due.levels(x, "as ahead of the TURN", 20, 0, 10);
        Due.is("what is kept is as it was", x.on(1), 1);
        Due.is("its DEED too", x.undo(0), 1);
        Due.is("OPEN as told", x.count(3), 3);
    }

    private static void nothing() {
        Sentences.of(Sentences.TERMS, "FINDINGS: 1 NOTHING (a ROW, a TEXT, a kept BRIDGE that is missing),");
        SluiceLevels x = new SluiceLevels();
        Due.finds(x, "a ROW, lay", () -> x.lay(0, 0, 0), 1);
        Due.finds(x, "a ROW, at", () -> x.at(1, 0), 1);
        Due.finds(x, "a ROW, tear", () -> x.tear(2), 1);
        Due.finds(x, "a ROW, copy", () -> x.copy(3, 0, 4, 0, 0), 1);
        Due.finds(x, "a ROW, mean", () -> x.mean(5), 1);
        Due.finds(x, "a TEXT, put", () -> x.put(0, 0, 0), 1);
        Due.finds(x, "a TEXT, fault", () -> x.fault(1), 1);
        Due.finds(x, "a TEXT, bridge", () -> x.bridge(2), 1);
        Due.finds(x, "a kept BRIDGE, on", () -> x.on(0), 1);
        SluiceLevels y = Due.with("h20g9100");
        Due.finds(y, "a ROW, opens", () -> y.opens(0, 0), 1);
        Due.finds(y, "a ROW, sure", () -> y.sure(0, 0), 1);
        Due.finds(y, "a ROW, next", () -> y.next(0, 0), 1);
        Due.finds(y, "a ROW, widths", () -> y.widths(0, 0, 0), 1);
        Due.finds(y, "a ROW, kinds", () -> y.kinds(0, 0, 0), 1);
    }

    private static void beyond() {
        Sentences.of(Sentences.TERMS, "2 BEYOND (a place of a ROW, a TEXT that there is not),");
        SluiceLevels x = new SluiceLevels();
        x.row(0, 40);
        x.text(0, 60);
        Due.finds(x, "a ROW, lay", () -> x.lay(0, 40, 0), 2);
        Due.finds(x, "a ROW, at", () -> x.at(0, 40), 2);
        Due.finds(x, "a ROW, copy", () -> x.copy(0, 0, 0, 1, 40), 2);
        Due.finds(x, "a ROW, below 0", () -> x.at(0, -1), 2);
        Due.finds(x, "a TEXT, put", () -> x.put(0, 60, 0), 2);
        Due.finds(x, "a TEXT, below 0", () -> x.put(0, -1, 0), 2);
    }

    private static void unlike() {
        Sentences.of(Sentences.TERMS, "3 UNLIKE (a GATE of another KIND; a number that is none),");
        SluiceLevels x = Due.with("h20g9100");
        Due.fill(x, 0, 61);
        Due.finds(x, "another KIND, mark", () -> x.mark(0, 3), 3);
        Due.finds(x, "no LEVEL, opens", () -> x.opens(0, 0), 3);
        Due.finds(x, "no LEVEL, kinds", () -> x.kinds(0, 0, 0), 3);
    }

    private static void nought() {
        Sentences.of(Sentences.TERMS, "4 NOUGHT (shared among none; nothing fits),");
        SluiceLevels x = Due.with("h20g9100");
        x.row(0, 0);
        Due.finds(x, "among none, mean", () -> x.mean(0), 4);
        Due.finds(x, "nothing fits, surely", () -> x.surely(8), 4);
    }

    private static void size() {
        Sentences.of(Sentences.TERMS, "5 SIZE (fewer than none; too many, not as many as due).");
        SluiceLevels x = Due.with("h20g9100");
        Due.finds(x, "fewer than none, row", () -> x.row(0, -1), 5);
        Due.finds(x, "fewer than none, text", () -> x.text(1, -1), 5);
        x.row(0, 11);
        x.row(1, 0);
        Due.finds(x, "fewer than none, copy", () -> x.copy(0, 0, 0, 0, -1), 5);
        Due.finds(x, "too many, opens", () -> x.opens(0, 0), 5);
        Due.finds(x, "not as many as due, opens", () -> x.opens(0, 1), 5);
    }

    private static void lowestTerms() {
        Sentences.of(Sentences.TERMS, "Chances, means, numbers of sets are told by upper(), lower(), in lowest terms, the lower number above 0 (0 by 1).");
        SluiceLevels x = Due.with("h20g9100g9100");
        Due.part(x, "64 by 144", x.odds(2, 4, 4), 4, 9);
        Due.part(x, "a chance of none", x.odds(2, 5, 4), 0, 1);
        Due.part(x, "a sure one", x.odds(0, 11, 4), 1, 1);
        Due.part(x, "a mean", x.mid(2, 6), 1, 1);
        Due.part(x, "a mean of none", x.mid(2, 12), 0, 1);
        Due.part(x, "a part of a mean", x.mid(2, 11), 1, 36);
        Due.part(x, "sets", x.sets(9), 2, 1);
        Due.part(x, "no sets", x.sets(10), 0, 1);
        Due.fill(x, 0, 11);
        Due.part(x, "sets by how one stood", x.opens(0, 0), 2, 1);
        Due.fill(x, 0, 12);
        Due.part(x, "no sets by how one stood", x.opens(0, 0), 0, 1);
        SluiceLevels six = Due.with("h60p1100p1100p1100p1100p1100g1100");
        // GATE 5 has nothing to let through, the others neither: 60 in any of 12 to the 6 ways.
        Due.part(six, "60 by 1", six.mid(0, 1), 60, 1);
        SluiceLevels far = Due.with("h60g1100g2100g3100g4100g5100g6160");
        Due.part(far, "60 less 11 by 12", far.mid(0, 1), 709, 12);
    }

    private static void bits() {
        Sentences.of(Sentences.TERMS, "Sets (of GATES, of KINDS, of WIDTHS) are told by bits.");
        SluiceLevels x = Due.with("h60g1160g1160g1160g1160g1160g1100");
        Due.is("GATE 5 by bit 5", x.turn(), 32);
        x.undo(0);
        Due.is("all six", x.count(3), 63);
        Due.both(x, "GATES of a set", x.surely(6), 63, 0);
        Due.fill(x, 0, 59);
        Due.is("WIDTH 1 by bit 1", x.widths(5, 5, 0), 2);
        Due.is("KINDS 0, 1, 3, 4 by bits 0, 1, 3, 4", x.kinds(5, 5, 0), 27);
        Due.is("GATES of a set by how one stood", x.sure(5, 0), 32);
    }

    private static void askedIs(SluiceLevels x, String call, int got, int want, int told) {
        Due.both(x, call, got, want, told);
        // Another one told between, so that each is seen to tell anew.
        Due.tells(x, "basin(2) between", x.basin(2), 30);
    }

    private static void askedByEach() {
        Sentences.of(38, "What the latest lay(), at(), mean(), basin(), gate(), level(), high(), even(), opens(), sure(), next(), sets(), surely(), duel()");
        SluiceLevels x = Due.with("h20g9100s1030");
        Due.fill(x, 0, 11, 12);
        Due.tells(x, "basin(2)", x.basin(2), 30);
        askedIs(x, "lay", x.lay(0, 1, 10), 1, 12);
        askedIs(x, "at", x.at(0, 0), 1, 11);
        askedIs(x, "mean", x.mean(0), 1, 10);
        askedIs(x, "gate", x.gate(1, 0), 1, 1);
        askedIs(x, "level", x.level(0, 1), 11, 1);
        askedIs(x, "level of now", x.level(0, 0), 20, 0);
        askedIs(x, "high", x.high(0, 20, 1), 1, 1);
        askedIs(x, "even", x.even(1), 1, 21);
        askedIs(x, "opens", x.opens(0, 0), 1, 1);
        askedIs(x, "sure", x.sure(0, 0), 1, 0);
        askedIs(x, "next", x.next(0, 0), 0, 2);
        askedIs(x, "sets", x.sets(10), 1, 3);
        askedIs(x, "sets of none", x.sets(2), 1, Due.NONE);
        askedIs(x, "surely", x.surely(9), 1, 2);
        askedIs(x, "duel", x.duel(0), 1, -20);
        x.lay(0, 1, 60);
        askedIs(x, "opens of none", x.opens(0, 0), 1, Due.NONE);
        askedIs(x, "sure of none", x.sure(0, 0), 3, 3);
    }

    private static void askedNotByRefused() {
        Sentences.of(38, "that was not refused (nor NONE) told;");
        SluiceLevels x = Due.with("h20g9100s1030");
        x.row(0, 0);
        Due.fill(x, 1, 12);
        x.basin(2);
        Due.refuses(x, "high, NONE", () -> x.high(0, 60, 1), Due.NONE);
        Due.refuses(x, "next, NONE", () -> x.next(0, 1), Due.NONE);
        Due.finds(x, "lay", () -> x.lay(0, 0, 5), Due.BEYOND);
        Due.finds(x, "at", () -> x.at(0, 0), Due.BEYOND);
        Due.finds(x, "mean", () -> x.mean(0), Due.NOUGHT);
        Due.refuses(x, "basin", () -> x.basin(3), Due.BAD);
        Due.refuses(x, "gate", () -> x.gate(0, 4), Due.BAD);
        Due.refuses(x, "level", () -> x.level(0, 41), Due.BAD);
        Due.refuses(x, "high", () -> x.high(0, 61, 1), Due.BAD);
        Due.refuses(x, "even", () -> x.even(21), Due.BAD);
        Due.finds(x, "opens", () -> x.opens(0, 0), Due.SIZE);
        Due.finds(x, "sure", () -> x.sure(0, 0), Due.SIZE);
        Due.finds(x, "next", () -> x.next(0, 0), Due.SIZE);
        Due.refuses(x, "sets", () -> x.sets(55), Due.BAD);
        Due.finds(x, "surely", () -> x.surely(2), Due.NOUGHT);
        Due.refuses(x, "duel", () -> x.duel(3), Due.BAD);
        Due.is("as told ahead", x.asked(), 30);
        Sentences.of(38, "0 before.");
        SluiceLevels y = Due.with("h20g9100s1030");
        Due.is("before any", y.asked(), 0);
        Due.refuses(y, "high, NONE", () -> y.high(0, 60, 1), Due.NONE);
        Due.is("before any that is not refused", y.asked(), 0);
        Due.is("of a new one", new SluiceLevels().asked(), 0);
    }

    private static void askedNotByOthers() {
        Sentences.of(38, "What the latest lay(), at(), mean(), basin(), gate(), level(), high(), even(), opens(), sure(), next(), sets(), surely(), duel()");
        SluiceLevels x = Due.with("h20g9100s1030");
        Due.fill(x, 1, 11);
        x.basin(2);
        int[] others = {x.row(3, 4), x.copy(1, 0, 3, 0, 1), x.tear(3), x.text(1, 9), x.put(1, 0, 104), x.fault(1), x.bridge(0), x.mark(1, 1),
            x.turn(), x.wind(1), x.rain(1, 5), x.draw(1, 5), x.keep(0), x.on(0), x.lots(3, 3), x.undo(0), x.flows(0, 60, 9, 0), x.stops(),
            x.widths(0, 0, 1), x.kinds(0, 0, 1), x.odds(0, 20, 1), x.mid(0, 1), x.count(3), x.finding(), x.findings(1)};
        for (int k = 0; k < others.length; k++) {
            Due.is("other call " + k + " is not refused", others[k] >= 0 ? 1 : 0, 1);
        }
        x.digest();
        x.upper();
        x.lower();
        Due.is("asked() stays", x.asked(), 30);
        Due.is("and by itself", x.asked(), 30);
    }

    private static void upper() {
        Sentences.of(39, "The upper number that was told last; 0 before.");
        SluiceLevels x = Due.with("h20g9100");
        Due.is("0 before", x.upper(), 0);
        x.surely(9);
        Due.fill(x, 0, 11);
        x.sure(0, 0);
        x.next(0, 0);
        x.duel(1);
        Due.is("0 yet", x.upper(), 0);
        x.mid(0, 6);
        Due.is("by mid", x.upper(), 31);
        x.odds(0, 12, 7);
        Due.is("by odds", x.upper(), 7);
        x.sets(9);
        Due.is("by sets", x.upper(), 1);
        x.mid(0, 6);
        x.opens(0, 0);
        Due.is("by opens", x.upper(), 1);
        x.mid(0, 6);
        Due.refuses(x, "not by what is refused", () -> x.odds(0, 61, 1), Due.BAD);
        Due.is("told last", x.upper(), 31);
        Due.is("not by count, asked", x.count(4) + x.asked() > 0 ? 1 : 0, 1);
        Due.is("told last yet", x.upper(), 31);
    }

    private static void lower() {
        Sentences.of(40, "Its lower number; 1 before.");
        SluiceLevels x = Due.with("h20g9100");
        Due.is("1 before", x.lower(), 1);
        Due.is("1 before, of a new one", new SluiceLevels().lower(), 1);
        x.mid(0, 6);
        Due.is("by mid", x.lower(), 2);
        x.odds(0, 12, 7);
        Due.is("by odds", x.lower(), 12);
        Due.refuses(x, "not by what is refused", () -> x.mid(0, 13), Due.BAD);
        Due.is("told last", x.lower(), 12);
        x.sets(9);
        Due.is("by sets", x.lower(), 1);
        x.odds(0, 12, 7);
        Due.fill(x, 0, 11);
        x.opens(0, 0);
        Due.is("by opens", x.lower(), 1);
    }

    private static void countsAre(SluiceLevels x, String when, int... due) {
        for (int what = 0; what < due.length; what++) {
            Due.is(when + ": count(" + what + ")", x.count(what), due[what]);
        }
    }

    private static void count() {
        Sentences.of(41, "0 GATES, 1 the number of the next TURN, 2 DEEDS, 3 GATES that are OPEN (bits; WEIRS, too), 4 all LEVELS, "
            + "5 the greatest LEVEL less the least, 6 SLUICES (LOCKS, too), 7 PUMPS (ENGINES, too), 8 ROWS, 9 TEXTS that are there, 10 kept BRIDGES.");
        SluiceLevels x = Due.with(SIX);
        countsAre(x, "at first", 6, 0, 0, 63, 133, 38, 2, 2, 0, 1, 0);
        x.wind(5);
        x.turn();
        x.row(5, 0);
        x.text(3, 0);
        x.keep(1);
        countsAre(x, "since", 6, 1, 2, 31, 133, x.count(5), 2, 2, 1, 2, 1);
        x.keep(0);
        x.keep(2);
        x.tear(5);
        countsAre(x, "since", 6, 1, 2, 31, 133, x.count(5), 2, 2, 0, 2, 3);
        countsAre(Due.with("h00w1000"), "a shut WEIR", 1, 0, 0, 1, 0, 0, 0, 0, 0, 1, 0);
        countsAre(Due.with("h00l1060"), "a LOCK", 1, 0, 0, 0, 60, 60, 1, 0, 0, 1, 0);
        countsAre(Due.with("h60e1100"), "an ENGINE", 1, 0, 0, 1, 60, 60, 0, 1, 0, 1, 0);
        countsAre(Due.with("h60s1060s1160s1060l1060l1160l1060"), "full", 6, 0, 0, 18, 420, 0, 6, 0, 0, 1, 0);
        countsAre(Due.with("h30p1020p1131p1030e1029e1130e1060"), "the last one is the greatest", 6, 0, 0, 18, 230, 40, 0, 6, 0, 1, 0);
        SluiceLevels many = new SluiceLevels();
        for (int r = 0; r < 6; r++) {
            many.row(r, r);
        }
        for (int t = 0; t < 4; t++) {
            many.text(t, t);
        }
        countsAre(many, "rows, texts", 0, 0, 0, 0, 0, 0, 0, 0, 6, 4, 0);
        many.undo(0);
        countsAre(many, "as ahead", 0, 0, 0, 0, 0, 0, 0, 0, 6, 4, 0);
    }

    private static void countOfNone() {
        SluiceLevels x = new SluiceLevels();
        countsAre(x, "of a new one", 0, 0, 0, 0, 0, 0, 0, 0, 0, 0, 0);
        Due.write(x, 0, "h40");
        Due.is("a BRIDGE without GATES is none", x.bridge(0), Due.STATE);
        countsAre(x, "refused", 0, 0, 0, 0, 0, 0, 0, 0, 0, 1, 0);
        SluiceLevels forty = Due.with("h00p1160");
        for (int t = 0; t < 40; t++) {
            forty.turn();
        }
        countsAre(forty, "forty TURNS", 1, 40, 40, 1, 60, 20, 0, 1, 0, 1, 0);
    }

    private static void countRefused() {
        Sentences.of(41, "BAD.");
        SluiceLevels x = Due.with("h20g9100");
        int[] bad = {-1, 11, BIG, SMALL};
        for (int what : bad) {
            Due.refuses(x, "count(" + what + ")", () -> x.count(what), Due.BAD);
        }
    }

    private static void finding() {
        Sentences.of(42, "The latest FINDING (0 before any).");
        SluiceLevels x = Due.with("h40g5110");
        Due.is("none yet", x.finding(), 0);
        x.wind(1);
        x.rain(0, 10);
        x.high(1, 60, 1);
        Due.is("none by BAD, NONE", x.finding(), 0);
        x.tear(0);
        Due.is("NOTHING", x.finding(), 1);
        x.row(0, 0);
        x.at(0, 0);
        Due.is("BEYOND", x.finding(), 2);
        x.mark(0, 3);
        Due.is("UNLIKE", x.finding(), 3);
        x.mean(0);
        Due.is("NOUGHT", x.finding(), 4);
        x.row(0, -1);
        Due.is("SIZE", x.finding(), 5);
        x.on(0);
        Due.is("NOTHING again", x.finding(), 1);
        x.row(0, 41);
        x.turn();
        x.finding();
        Due.is("NOTHING yet", x.finding(), 1);
        x.bridge(0);
        Due.is("NOTHING, though the BRIDGE is made anew", x.finding(), 1);
    }

    private static void findings() {
        Sentences.of(43, "How often a FINDING (1 .. 5) was answered.");
        SluiceLevels x = Due.with("h40g5110");
        x.row(0, 0);
        int[] times = {3, 1, 4, 2, 5};
        for (int f = 1; f <= 5; f++) {
            Due.is("none yet of " + f, x.findings(f), 0);
            for (int n = 1; n <= times[f - 1]; n++) {
                int got = f == 1 ? x.tear(1) : f == 2 ? x.at(0, 0) : f == 3 ? x.mark(0, 3) : f == 4 ? x.mean(0) : x.row(0, -1);
                Due.is("FINDING " + f, got, Due.FINDING);
                Due.is("so often " + f, x.findings(f), n);
            }
        }
        x.turn();
        x.wind(7);
        for (int f = 1; f <= 5; f++) {
            Due.is("findings(" + f + ")", x.findings(f), times[f - 1]);
        }
        Sentences.of(43, "BAD.");
        int[] bad = {0, 6, -1, BIG, SMALL};
        for (int f : bad) {
            Due.refuses(x, "findings(" + f + ")", () -> x.findings(f), Due.BAD);
        }
    }

    /** h by numbers without an end, cut to a long at the end alone. */
    private static long digestOf(long... values) {
        BigInteger h = BigInteger.valueOf(17);
        for (long v : values) {
            h = h.multiply(BigInteger.valueOf(31)).add(BigInteger.valueOf(v));
        }
        return h.longValue();
    }

    private static void digest() {
        Sentences.of(44, "h = 17; then h = 31 h + v for each v (of a call that tells by asked(): what it tells, not the 1 that it answers; asked() stays): "
            + "count() 0 to 10; the LEVEL of each BASIN (none without GATES); of each GATE gate() 0 to 3;");
        SluiceLevels none = new SluiceLevels();
        Due.is("of a new one", none.digest(), digestOf(0, 0, 0, 0, 0, 0, 0, 0, 0, 0, 0, -1, -1, -1, -1, -1, -1, -1, -1, -1, -1, -1, -1, -1));
        SluiceLevels x = Due.with("h40g5110w3025");
        x.basin(1);
        long want = digestOf(2, 0, 0, 3, 75, 30, 0, 0, 0, 1, 0, 40, 10, 25, 0, 5, 1, 5, 3, 3, 1, -3,
            -1, -1, -1, -1, -1, -1, -1, -1, -1, 13, 'h', '4', '0', 'g', '5', '1', '1', '0', 'w', '3', '0', '2', '5', -1, -1, -1);
        Due.is("half of 10 up the WEIR, at most 3", x.digest(), want);
        Due.is("asked() stays", x.asked(), 10);
        Due.is("again the same", x.digest(), want);
        SluiceLevels shut = Due.with("h40e5010");
        shut.turn();
        shut.turn();
        Due.is("shut, in TURN 2", shut.digest(), digestOf(1, 2, 2, 0, 50, 30, 0, 1, 0, 1, 0, 40, 10, 5, 5, 0, 0,
            -1, -1, -1, -1, -1, -1, -1, -1, -1, 8, 'h', '4', '0', 'e', '5', '0', '1', '0', -1, -1, -1));
        shut.mid(0, 6);
        shut.tear(0);
        Due.is("not of what is told, nor of FINDINGS", shut.digest(), digestOf(1, 2, 2, 0, 50, 30, 0, 1, 0, 1, 0, 40, 10, 5, 5, 0, 0,
            -1, -1, -1, -1, -1, -1, -1, -1, -1, 8, 'h', '4', '0', 'e', '5', '0', '1', '0', -1, -1, -1));
    }

    private static void digestOfKept() {
        Sentences.of(44, "of each kept BRIDGE how many DEEDS (-1: missing);");
        SluiceLevels x = Due.with("h40g5010");
        x.keep(2);
        x.turn();
        x.turn();
        x.keep(0);
        Due.is("two DEEDS, missing, none", x.digest(), digestOf(1, 2, 2, 0, 50, 30, 0, 0, 0, 1, 2, 40, 10, 0, 5, 0, 0, 2, -1, 0,
            -1, -1, -1, -1, -1, -1, 8, 'h', '4', '0', 'g', '5', '0', '1', '0', -1, -1, -1));
        Due.is("bridge", x.bridge(0), 1);
        Due.is("all missing", x.digest(), digestOf(1, 0, 0, 0, 50, 30, 0, 0, 0, 1, 0, 40, 10, 0, 5, 0, 0, -1, -1, -1,
            -1, -1, -1, -1, -1, -1, 8, 'h', '4', '0', 'g', '5', '0', '1', '0', -1, -1, -1));
    }

    private static void digestWithout() {
        Sentences.of(44, "of each ROW its size (-1: missing) and places, of each TEXT likewise.");
        SluiceLevels x = new SluiceLevels();
        Due.fill(x, 0, 3, SMALL, BIG);
        x.row(4, 0);
        Due.fill(x, 5, -1);
        x.text(0, 0);
        x.text(3, 2);
        x.put(3, 0, 200);
        Due.is("ROWS and TEXTS", x.digest(), digestOf(0, 0, 0, 0, 0, 0, 0, 0, 3, 2, 0, -1, -1, -1,
            3, 3, SMALL, BIG, -1, -1, -1, 0, 1, -1, 0, -1, -1, 2, -56, 32));
        x.row(0, 1);
        x.tear(5);
        x.text(3, 1);
        Due.is("made smaller, torn", x.digest(), digestOf(0, 0, 0, 0, 0, 0, 0, 0, 2, 2, 0, -1, -1, -1,
            1, 0, -1, -1, -1, 0, -1, 0, -1, -1, 1, 32));
        for (int r = 0; r < 6; r++) {
            x.row(r, 40);
        }
        long[] due = new long[14 + 6 * 41 + 1 + 1 + 1 + 1 + 1];
        due[8] = 6;
        due[9] = 2;
        due[11] = -1;
        due[12] = -1;
        due[13] = -1;
        for (int r = 0; r < 6; r++) {
            due[14 + 41 * r] = 40;
        }
        long[] texts = {0, -1, -1, 1, 32};
        System.arraycopy(texts, 0, due, 14 + 6 * 41, texts.length);
        Due.is("full ROWS", x.digest(), digestOf(due));
    }
}

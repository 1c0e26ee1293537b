/** The language of BRIDGES and promises 8 to 11, sentence by sentence: the edges. */
final class EdgesOfTexts {
    private static final int BIG = Integer.MAX_VALUE, SMALL = Integer.MIN_VALUE;
    private static final String SIX = "h40g5110s3125p2107w4030l6119e1102";

    private EdgesOfTexts() {
    }

    static void all() {
        rowsAndTexts();
        blanks();
        firstItem();
        gatesAsTheyCome();
        itemsOfAGate();
        faultAtItsPlace();
        faultOfASeventh();
        faultOfTwoFigures();
        faultAtTheEnd();
        text();
        textRefused();
        put();
        putRefused();
        fault();
        bridge();
        bridgeRefused();
    }

    /** On a new object: the FAULT, and that the BRIDGE is refused by it (or there). */
    private static void faultOf(String text, int want) {
        SluiceLevels x = new SluiceLevels();
        Due.write(x, 3, text);
        Due.is("fault of '" + text + "'", x.fault(3), want);
        if (want == Due.NONE) {
            Due.is("bridge of '" + text + "'", x.bridge(3) > 0 ? 1 : 0, 1);
        } else {
            Due.refuses(x, "bridge of '" + text + "'", () -> x.bridge(3), Due.STATE);
        }
    }

    /** All bytes but those that fit, at one place of a TEXT: that place is the FAULT (but of a blank, which may be fine there). */
    private static void onlyTheseFit(String text, int place, String fitting, int ofABlank) {
        SluiceLevels x = new SluiceLevels();
        for (int v = -128; v <= 127; v++) {
            if (v % 128 == 0) {
                x = new SluiceLevels();
                Due.write(x, 0, text);
            }
            x.put(0, place, v);
            int want = v == 32 ? ofABlank : v >= 0 && fitting.indexOf((char) v) >= 0 ? Due.NONE : place;
            Due.is("fault of '" + text + "' with " + v + " at " + place, x.fault(0), want);
        }
    }

    private static void rowsAndTexts() {
        Sentences.of(Sentences.TERMS, "1 ROWS 0 .. 5 are rows of 0 to 40 ints, TEXTS 0 .. 3 rows of 0 to 60 bytes, or missing (at first).");
        SluiceLevels x = new SluiceLevels();
        Due.is("no ROWS at first", x.count(8), 0);
        Due.is("no TEXTS at first", x.count(9), 0);
        for (int r = 0; r < 6; r++) {
            Due.is("row(" + r + ", 0)", x.row(r, 0), 0);
            Due.is("row(" + r + ", 40)", x.row(r, 40), 40);
        }
        for (int t = 0; t < 4; t++) {
            Due.is("text(" + t + ", 0)", x.text(t, 0), 0);
            Due.is("text(" + t + ", 60)", x.text(t, 60), 60);
        }
        Due.is("all ROWS", x.count(8), 6);
        Due.is("all TEXTS", x.count(9), 4);
        Due.refuses(x, "row(6, 0)", () -> x.row(6, 0), Due.BAD);
        Due.refuses(x, "row(0, 41)", () -> x.row(0, 41), Due.BAD);
        Due.refuses(x, "text(4, 0)", () -> x.text(4, 0), Due.BAD);
        Due.refuses(x, "text(0, 61)", () -> x.text(0, 61), Due.BAD);
    }

    private static void blanks() {
        Sentences.of(Sentences.TERMS, "blanks (32) ahead, between, behind as many as wanted, none within items.");
        faultOf("h40g5110", Due.NONE);
        faultOf(" h40g5110", Due.NONE);
        faultOf("h40 g5110", Due.NONE);
        faultOf("h40g5110 ", Due.NONE);
        faultOf("  h40   g5110    s1020     ", Due.NONE);
        faultOf(" ".repeat(52) + "h40g5110", Due.NONE);
        faultOf("h40" + " ".repeat(52) + "g5110", Due.NONE);
        faultOf("h40g5110" + " ".repeat(52), Due.NONE);
        faultOf("h40g5110s1020", Due.NONE);
        faultOf("h 40g5110", 1);
        faultOf("h4 0g5110", 2);
        faultOf("h40g 5110", 4);
        faultOf("h40g5 110", 5);
        faultOf("h40g51 10", 6);
        faultOf("h40g511 0", 7);
        faultOf("\th40g5110", 0);
        faultOf("h40\ng5110", 3);
        faultOf("h40g5110\0", 8);
    }

    private static void firstItem() {
        Sentences.of(Sentences.TERMS, "A BRIDGE (without GATES at first) is a TEXT:");
        SluiceLevels x = new SluiceLevels();
        Due.is("no GATES at first", x.count(0), 0);
        Due.write(x, 1, SIX);
        Due.is("none by the TEXT yet", x.count(0), 0);
        Due.is("six by bridge()", x.bridge(1), 6);
        Due.is("six", x.count(0), 6);
        Sentences.of(Sentences.TERMS, "First h (104) and the LEVEL of BASIN 0 (two figures, 00 .. 60).");
        onlyTheseFit("h40g5110", 0, "h", 1);
        levelsOfBasin("h", "g5110", 0);
        faultOf("g5110", 0);
        faultOf("40g5110", 0);
        faultOf("H40g5110", 0);
        faultOf("h40h40g5110", 3);
        faultOf("h40g5110h40", 8);
    }

    /** 00, 01, .. 99 between two ends of a TEXT. */
    private static void levelsOfBasin(String ahead, String behind, int b) {
        SluiceLevels x = new SluiceLevels();
        Due.write(x, 0, ahead + "00" + behind);
        for (int v = 0; v <= 99; v++) {
            x.put(0, ahead.length(), '0' + v / 10);
            x.put(0, ahead.length() + 1, '0' + v % 10);
            if (v > 60) {
                Due.is(ahead + v + behind + " is none", x.fault(0), ahead.length());
            } else if (v % 10 < 2) {
                Due.is(ahead + v + behind, x.bridge(0) > 0 ? 1 : 0, 1);
                Due.tells(x, ahead + v + behind, x.basin(b), v);
            }
        }
    }

    private static void gatesAsTheyCome() {
        Sentences.of(Sentences.TERMS, "Then GATES (1 to 6; 0, 1, .. as they come; GATE i is between BASIN i and BASIN i + 1):");
        String[] texts = {"h40", "h40g5110", "h40g5110s3125", "h40g5110s3125p2107", "h40g5110s3125p2107w4030",
            "h40g5110s3125p2107w4030l6119", SIX};
        int[] widths = {5, 3, 2, 4, 6, 1};
        int[] levels = {40, 10, 25, 7, 30, 19, 2};
        faultOf(texts[0], 3);
        for (int gates = 1; gates <= 6; gates++) {
            SluiceLevels x = new SluiceLevels();
            Due.write(x, 0, texts[gates]);
            Due.is("bridge of " + texts[gates], x.bridge(0), gates);
            for (int i = 0; i < gates; i++) {
                Due.tells(x, "KIND of GATE " + i, x.gate(i, 0), i);
                Due.tells(x, "WIDTH of GATE " + i, x.gate(i, 1), widths[i]);
                Due.tells(x, "ahead of GATE " + i, x.basin(i), levels[i]);
                Due.tells(x, "behind GATE " + i, x.basin(i + 1), levels[i + 1]);
            }
            int none = gates;
            Due.refuses(x, "no GATE " + none, () -> x.gate(none, 0), Due.BAD);
            Due.refuses(x, "no BASIN " + (none + 1), () -> x.basin(none + 1), Due.BAD);
        }
        faultOf(SIX + "g1100", 33);
    }

    private static void itemsOfAGate() {
        Sentences.of(Sentences.TERMS, "a letter, the WIDTH (1 .. 9), whether it is OPEN (1, 0), one figure each, "
            + "the LEVEL of the BASIN behind it (two figures, 00 .. 60).");
        onlyTheseFit("h40g5110", 3, "gspwle", 4);
        onlyTheseFit("h40g5110", 4, "123456789", 4);
        onlyTheseFit("h40g5110", 5, "01", 5);
        levelsOfBasin("h40g51", "", 1);
        levelsOfBasin("h40g5110s90", "p1000", 2);
        SluiceLevels x = Due.with("h00g1000s9160");
        Due.tells(x, "the least WIDTH", x.gate(0, 1), 1);
        Due.tells(x, "shut", x.gate(0, 2), 0);
        Due.tells(x, "the most WIDTH", x.gate(1, 1), 9);
        Due.tells(x, "OPEN", x.gate(1, 2), 1);
        Due.levels(x, "the least and the most", 0, 0, 60);
    }

    private static void faultAtItsPlace() {
        Sentences.of(Sentences.TERMS, "A FAULT is the first place at which it can't go on so (a letter, a figure that is none such, a seventh GATE: its place;");
        onlyTheseFit("h00g5110", 2, "0123456789", 2);
        onlyTheseFit("h40g5100", 7, "0123456789", 7);
        onlyTheseFit("  h40 g5110", 6, "gspwle", 7);
        faultOf("x", 0);
        faultOf("  x40g5110", 2);
        faultOf("h/0g5110", 1);
        faultOf("h:0g5110", 1);
        faultOf("h0/g5110", 2);
        faultOf("h0:g5110", 2);
        faultOf("h7xg5110", 2);
        faultOf("h40g0110", 4);
        faultOf("h40g:110", 4);
        faultOf("h40g5210", 5);
        faultOf("h40g5/10", 5);
        faultOf("h40g51a0", 6);
        faultOf("h40g511a", 7);
        faultOf("h40g51100", 8);
        faultOf("h40g5110 x", 9);
        faultOf("h40g0210", 4);
        faultOf("hx0g0210", 1);
        faultOf("h40g5110s0110p0110", 9);
        faultOf("h40g5110s1170p0110", 11);
    }

    private static void faultOfASeventh() {
        faultOf(SIX + "g1110", 33);
        faultOf(SIX + "   g1110", 36);
        faultOf(SIX + "g", 33);
        faultOf(SIX + " x", 34);
        faultOf(SIX + "7", 33);
        faultOf(SIX + " ", Due.NONE);
        faultOf("h40" + " g1110".repeat(6) + " ".repeat(20) + "g", 59);
    }

    private static void faultOfTwoFigures() {
        Sentences.of(Sentences.TERMS, "two figures above 60: the place of the first of both;");
        faultOf("h60g5160", Due.NONE);
        faultOf("h61g5110", 1);
        faultOf("h69g5110", 1);
        faultOf("h70g5110", 1);
        faultOf("h99", 1);
        faultOf("  h61", 3);
        faultOf("h40g5161", 6);
        faultOf("h40 g5199", 7);
        faultOf("h40g5110s1061p", 11);
        faultOf("h6ag5110", 2);
    }

    private static void faultAtTheEnd() {
        Sentences.of(Sentences.TERMS, "the TEXT's size, if its end comes too early, or there are blanks alone).");
        faultOf("", 0);
        faultOf(" ", 1);
        faultOf(" ".repeat(60), 60);
        String whole = " h40 g5110";
        for (int n = 1; n < whole.length(); n++) {
            faultOf(whole.substring(0, n), n);
        }
        String two = "h40g5110s3125";
        for (int n = 9; n < two.length(); n++) {
            faultOf(two.substring(0, n), n);
        }
        faultOf("h7", 2);
        faultOf("h40g519", 7);
        faultOf("h40  ", 5);
        faultOf("h40" + " ".repeat(57), 60);
        faultOf("h40g5110" + " ".repeat(51) + "g", 60);
        faultOf("h40g5110" + " ".repeat(50) + "g1", 60);
        faultOf("h40g5110" + " ".repeat(48) + "g110", 60);
        shorterThanItWas();
    }

    /** What stood behind the end of a longer TEXT is not read. */
    private static void shorterThanItWas() {
        SluiceLevels x = Due.with("h40g5110s3125");
        int[] sizes = {1, 2, 3, 4, 6, 7, 11, 12};
        for (int n : sizes) {
            Due.write(x, 0, "h40g5110s3125");
            x.text(0, n);
            for (int i = 0; i < n; i++) {
                x.put(0, i, "h40g5110s3125".charAt(i));
            }
            Due.is("fault of the first " + n, x.fault(0), n);
        }
    }

    private static void text() {
        Sentences.of(8, "A TEXT is there with n blanks: n.");
        SluiceLevels x = new SluiceLevels();
        for (int t = 0; t < 4; t++) {
            Due.is("text(" + t + ", none)", x.text(t, 0), 0);
            Due.is("so many are there", x.count(9), t + 1);
        }
        Due.is("text(3, most)", x.text(3, 60), 60);
        for (int i = 0; i < 60; i++) {
            Due.is("a blank at " + i, x.put(3, i, 7), 1032);
        }
        Due.is("text(3, 59) anew", x.text(3, 59), 59);
        for (int i = 0; i < 59; i++) {
            Due.is("a blank anew at " + i, x.put(3, i, 32), 1032);
        }
        Due.finds(x, "the last one is gone", () -> x.put(3, 59, 7), Due.BEYOND);
        Due.is("text(3, 60) anew", x.text(3, 60), 60);
        Due.is("the last one is a blank again", x.put(3, 59, 32), 1032);
        Due.is("blanks alone", x.fault(3), 60);
        Due.finds(x, "no other one has bytes", () -> x.put(2, 0, 7), Due.BEYOND);
        Due.is("still four", x.count(9), 4);
    }

    private static void textRefused() {
        Sentences.of(8, "BAD: also n above 60;");
        SluiceLevels x = new SluiceLevels();
        Due.write(x, 0, "h4");
        Due.refuses(x, "text(0, 61)", () -> x.text(0, 61), Due.BAD);
        Due.refuses(x, "text(0, BIG)", () -> x.text(0, BIG), Due.BAD);
        Due.refuses(x, "text(1, 61), missing", () -> x.text(1, 61), Due.BAD);
        Due.refuses(x, "text(-1, 1)", () -> x.text(-1, 1), Due.BAD);
        Due.refuses(x, "text(4, 1)", () -> x.text(4, 1), Due.BAD);
        Due.refuses(x, "text(BIG, 1)", () -> x.text(BIG, 1), Due.BAD);
        Due.refuses(x, "text(SMALL, 1)", () -> x.text(SMALL, 1), Due.BAD);
        Due.refuses(x, "BAD ahead of SIZE", () -> x.text(4, -1), Due.BAD);
        Due.is("41 are fine", x.text(3, 41), 41);
        Sentences.of(8, "SIZE: below 0.");
        Due.finds(x, "text(0, -1)", () -> x.text(0, -1), Due.SIZE);
        Due.finds(x, "text(0, SMALL)", () -> x.text(0, SMALL), Due.SIZE);
        Due.finds(x, "text(1, -1), missing", () -> x.text(1, -1), Due.SIZE);
        Due.is("text(0, 0) is fine", x.text(0, 0), 0);
    }

    private static void put() {
        Sentences.of(9, "Byte i of a TEXT is v, cut to a byte (-128 .. 127): what it was, and 1000 more.");
        SluiceLevels x = new SluiceLevels();
        x.text(0, 60);
        x.text(3, 1);
        int[] put = {0, 127, 128, 129, 255, 256, 257, -1, -127, -128, -129, -256, BIG, SMALL, 65536 + 65, 32};
        int[] cut = {0, 127, -128, -127, -1, 0, 1, -1, -127, -128, 127, 0, -1, 0, 65, 32};
        int was = 32;
        for (int k = 0; k < put.length; k++) {
            Due.is("put " + put[k], x.put(0, 59, put[k]), was + 1000);
            was = cut[k];
        }
        Due.is("the last place", x.put(0, 59, 65), 1032);
        Due.is("the first place", x.put(0, 0, 66), 1032);
        Due.is("the first place again", x.put(0, 0, 32), 1066);
        Due.is("no other place", x.put(0, 58, 32), 1032);
        Due.is("no other TEXT", x.put(3, 0, 9), 1032);
        Due.is("put tells nothing by asked()", x.asked(), 0);
        Due.write(x, 1, "h40g5110");
        Due.is("104, cut", x.put(1, 0, 104 + 512), 1104);
        Due.is("is an h", x.fault(1), Due.NONE);
        Due.is("104 below 0", x.put(1, 0, -104), 1104);
        Due.is("is none", x.fault(1), 0);
    }

    private static void putRefused() {
        Sentences.of(9, "BAD;");
        SluiceLevels x = new SluiceLevels();
        Due.write(x, 0, "h4");
        Due.refuses(x, "put(-1)", () -> x.put(-1, 0, 1), Due.BAD);
        Due.refuses(x, "put(4)", () -> x.put(4, 0, 1), Due.BAD);
        Due.refuses(x, "put(BIG)", () -> x.put(BIG, 0, 1), Due.BAD);
        Due.refuses(x, "put(SMALL)", () -> x.put(SMALL, 0, 1), Due.BAD);
        Sentences.of(9, "NOTHING;");
        Due.finds(x, "put in a missing one", () -> x.put(1, 0, 1), Due.NOTHING);
        Due.finds(x, "NOTHING ahead of BEYOND", () -> x.put(3, -1, 1), Due.NOTHING);
        Sentences.of(9, "BEYOND.");
        Due.finds(x, "put at the size", () -> x.put(0, 2, 1), Due.BEYOND);
        Due.finds(x, "put at -1", () -> x.put(0, -1, 1), Due.BEYOND);
        Due.finds(x, "put at 60", () -> x.put(0, 60, 1), Due.BEYOND);
        Due.finds(x, "put at BIG", () -> x.put(0, BIG, 1), Due.BEYOND);
        Due.finds(x, "put at SMALL", () -> x.put(0, SMALL, 1), Due.BEYOND);
        x.text(2, 0);
        Due.finds(x, "put in an empty one", () -> x.put(2, 0, 1), Due.BEYOND);
    }

    private static void fault() {
        Sentences.of(10, "A FAULT of a TEXT;");
        SluiceLevels x = Due.with("h40g5110");
        Due.write(x, 1, "h40g5170");
        Due.write(x, 2, "");
        Due.is("of TEXT 1", x.fault(1), 6);
        Due.is("of an empty one", x.fault(2), 0);
        Due.aside(x, "fault", () -> x.fault(1));
        Due.is("the BRIDGE is not touched", x.level(1, 1), 15);
        Sentences.of(10, "NONE: there is none.");
        Due.is("of TEXT 0", x.fault(0), Due.NONE);
        Due.refuses(x, "of TEXT 0, nothing becomes other", () -> x.fault(0), Due.NONE);
        Sentences.of(10, "BAD;");
        Due.refuses(x, "fault(-1)", () -> x.fault(-1), Due.BAD);
        Due.refuses(x, "fault(4)", () -> x.fault(4), Due.BAD);
        Due.refuses(x, "fault(BIG)", () -> x.fault(BIG), Due.BAD);
        Due.refuses(x, "fault(SMALL)", () -> x.fault(SMALL), Due.BAD);
        Sentences.of(10, "NOTHING.");
        Due.finds(x, "of a missing one", () -> x.fault(3), Due.NOTHING);
    }

    private static void bridge() {
        Sentences.of(11, "A BRIDGE by a TEXT (anew: TURN 0, no DEEDS; kept BRIDGES go): how many GATES.");
        SluiceLevels x = Due.with(SIX);
        x.keep(0);
        x.turn();
        x.keep(1);
        x.wind(1);
        x.keep(2);
        Due.write(x, 3, "h20w3130");
        Due.is("three are kept", x.count(10), 3);
        Due.is("another one", x.bridge(3), 1);
        Due.is("one GATE", x.count(0), 1);
        Due.is("TURN 0", x.count(1), 0);
        Due.is("no DEEDS", x.count(2), 0);
        Due.is("OPEN", x.count(3), 1);
        Due.is("LEVELS", x.count(4), 50);
        Due.is("none is kept", x.count(10), 0);
        for (int k = 0; k < 3; k++) {
            int place = k;
            Due.finds(x, "on(" + k + ")", () -> x.on(place), Due.NOTHING);
        }
        Due.refuses(x, "nothing to undo", () -> x.undo(1), Due.BAD);
        Due.refuses(x, "the GATES ahead are gone", () -> x.gate(1, 0), Due.BAD);
        x.turn();
        x.keep(1);
        x.level(0, 7);
        Due.is("the same one anew", x.bridge(3), 1);
        Due.levels(x, "anew", 20, 30);
        Due.is("TURN 0 again", x.count(1), 0);
        Due.is("no DEEDS again", x.count(2), 0);
        Due.is("none is kept again", x.count(10), 0);
        x.put(3, 1, 'x');
        Due.levels(x, "the TEXT is no more looked at", 20, 30);
        Due.write(x, 3, "h20g3030s3030p3030");
        x.bridge(0);
        Due.is("OPEN ones ahead", x.count(3), 63);
        Due.is("then shut ones", x.bridge(3), 3);
        Due.is("none is OPEN", x.count(3), 0);
    }

    private static void bridgeRefused() {
        Sentences.of(11, "BAD;");
        SluiceLevels x = Due.with("h40g5110");
        x.turn();
        x.keep(1);
        Due.refuses(x, "bridge(-1)", () -> x.bridge(-1), Due.BAD);
        Due.refuses(x, "bridge(4)", () -> x.bridge(4), Due.BAD);
        Due.refuses(x, "bridge(BIG)", () -> x.bridge(BIG), Due.BAD);
        Due.refuses(x, "bridge(SMALL)", () -> x.bridge(SMALL), Due.BAD);
        Sentences.of(11, "NOTHING;");
        Due.finds(x, "by a missing TEXT", () -> x.bridge(3), Due.NOTHING);
        Sentences.of(11, "STATE: a FAULT.");
        Due.write(x, 1, "h40g5110s1170");
        Due.refuses(x, "by a TEXT with a FAULT", () -> x.bridge(1), Due.STATE);
        x.text(2, 0);
        Due.refuses(x, "by an empty TEXT", () -> x.bridge(2), Due.STATE);
        Due.is("what is kept is so yet", x.on(1), 1);
        Due.is("the DEED too", x.undo(0), 1);
        Due.levels(x, "as told", 40, 10);
        Sentences.of(11, "(STATE behind NOTHING.)");
        SluiceLevels none = new SluiceLevels();
        Due.finds(none, "a missing TEXT has no FAULT", () -> none.bridge(0), Due.NOTHING);
        Due.finds(x, "nor with GATES", () -> x.bridge(3), Due.NOTHING);
        x.text(3, 0);
        Due.refuses(x, "there, and empty", () -> x.bridge(3), Due.STATE);
    }
}

/** Promises 1 to 7, sentence by sentence: the edges. */
final class EdgesOfRows {
    private static final int BIG = Integer.MAX_VALUE, SMALL = Integer.MIN_VALUE;

    private EdgesOfRows() {
    }

    static void all() {
        aNewObject();
        row();
        rowRefused();
        lay();
        layRefused();
        at();
        atRefused();
        tear();
        copy();
        copyRefused();
        copyInOrder();
        mean();
        meanRefused();
    }

    private static void aNewObject() {
        Sentences.of(1, "No ROWS, TEXTS, GATES.");
        SluiceLevels x = new SluiceLevels();
        SluiceLevels other = Due.with("h40g5110");
        other.row(0, 3);
        for (int what = 0; what <= 10; what++) {
            Due.is("count(" + what + ")", x.count(what), 0);
        }
        for (int r = 0; r < 6; r++) {
            int row = r;
            Due.finds(x, "at(" + r + ", 0)", () -> x.at(row, 0), Due.NOTHING);
        }
        for (int t = 0; t < 4; t++) {
            int text = t;
            Due.finds(x, "fault(" + t + ")", () -> x.fault(text), Due.NOTHING);
        }
        Due.refuses(x, "basin(0)", () -> x.basin(0), Due.STATE);
        Due.refuses(x, "gate(0, 0)", () -> x.gate(0, 0), Due.BAD);
        Due.is("the other one has its ROW", other.count(8), 1);
        Due.is("the other one has its GATE", other.count(0), 1);
    }

    private static void row() {
        Sentences.of(2, "A ROW is there with n ints 0: n.");
        SluiceLevels x = new SluiceLevels();
        for (int r = 0; r < 6; r++) {
            Due.is("row(" + r + ", none)", x.row(r, 0), 0);
            Due.is("so many are there", x.count(8), r + 1);
        }
        Due.is("row(5, most)", x.row(5, 40), 40);
        for (int i = 0; i < 40; i++) {
            Due.tells(x, "at(5, " + i + ")", x.at(5, i), 0);
            x.lay(5, i, 7);
        }
        Due.is("row(5, 39) anew", x.row(5, 39), 39);
        for (int i = 0; i < 39; i++) {
            Due.tells(x, "at(5, " + i + ") anew", x.at(5, i), 0);
        }
        Due.finds(x, "the last one is gone", () -> x.at(5, 39), Due.BEYOND);
        Due.is("row(5, 40) anew", x.row(5, 40), 40);
        Due.tells(x, "the last one is 0 again", x.at(5, 39), 0);
        Due.finds(x, "no other one has ints", () -> x.at(4, 0), Due.BEYOND);
        Due.is("one, and as many", x.row(0, 1), 1);
        Due.is("still six", x.count(8), 6);
    }

    private static void rowRefused() {
        Sentences.of(2, "BAD: also n above 40;");
        SluiceLevels x = new SluiceLevels();
        Due.fill(x, 0, 5, 6);
        Due.refuses(x, "row(0, 41)", () -> x.row(0, 41), Due.BAD);
        Due.refuses(x, "row(0, BIG)", () -> x.row(0, BIG), Due.BAD);
        Due.refuses(x, "row(1, 41), missing", () -> x.row(1, 41), Due.BAD);
        Due.refuses(x, "row(-1, 1)", () -> x.row(-1, 1), Due.BAD);
        Due.refuses(x, "row(6, 1)", () -> x.row(6, 1), Due.BAD);
        Due.refuses(x, "row(SMALL, 1)", () -> x.row(SMALL, 1), Due.BAD);
        Due.refuses(x, "row(BIG, 1)", () -> x.row(BIG, 1), Due.BAD);
        Due.refuses(x, "BAD ahead of SIZE", () -> x.row(6, -1), Due.BAD);
        Due.is("row(5, 40) is fine", x.row(5, 40), 40);
        Sentences.of(2, "SIZE: below 0.");
        Due.finds(x, "row(0, -1)", () -> x.row(0, -1), Due.SIZE);
        Due.finds(x, "row(0, SMALL)", () -> x.row(0, SMALL), Due.SIZE);
        Due.finds(x, "row(1, -1), missing", () -> x.row(1, -1), Due.SIZE);
        Due.is("row(0, 0) is fine", x.row(0, 0), 0);
    }

    private static void lay() {
        Sentences.of(3, "Place i of a ROW is v: what it was, told by asked(): 1.");
        SluiceLevels x = new SluiceLevels();
        x.row(0, 40);
        x.row(5, 40);
        Due.tells(x, "the first place", x.lay(0, 0, BIG), 0);
        Due.tells(x, "again", x.lay(0, 0, SMALL), BIG);
        Due.tells(x, "again", x.lay(0, 0, -1), SMALL);
        Due.tells(x, "the last place", x.lay(0, 39, 9), 0);
        Due.tells(x, "the last place again", x.lay(0, 39, 8), 9);
        Due.holds(x, 0, -1, 0);
        Due.tells(x, "no other place", x.at(0, 38), 0);
        Due.tells(x, "no other ROW", x.at(5, 0), 0);
        Due.tells(x, "the last ROW", x.lay(5, 39, 4), 0);
        Due.tells(x, "it stands", x.lay(5, 39, 5), 4);
        Due.tells(x, "no other ROW", x.at(0, 39), 8);
    }

    private static void layRefused() {
        Sentences.of(3, "BAD;");
        SluiceLevels x = new SluiceLevels();
        Due.fill(x, 0, 5, 6);
        Due.refuses(x, "lay(-1)", () -> x.lay(-1, 0, 1), Due.BAD);
        Due.refuses(x, "lay(6)", () -> x.lay(6, 0, 1), Due.BAD);
        Due.refuses(x, "lay(SMALL)", () -> x.lay(SMALL, 0, 1), Due.BAD);
        Due.refuses(x, "lay(BIG)", () -> x.lay(BIG, 0, 1), Due.BAD);
        Sentences.of(3, "NOTHING;");
        Due.finds(x, "lay in a missing one", () -> x.lay(1, 0, 1), Due.NOTHING);
        Due.finds(x, "NOTHING ahead of BEYOND", () -> x.lay(5, -1, 1), Due.NOTHING);
        Sentences.of(3, "BEYOND.");
        Due.finds(x, "lay at the size", () -> x.lay(0, 2, 1), Due.BEYOND);
        Due.finds(x, "lay at -1", () -> x.lay(0, -1, 1), Due.BEYOND);
        Due.finds(x, "lay at 40", () -> x.lay(0, 40, 1), Due.BEYOND);
        Due.finds(x, "lay at BIG", () -> x.lay(0, BIG, 1), Due.BEYOND);
        Due.finds(x, "lay at SMALL", () -> x.lay(0, SMALL, 1), Due.BEYOND);
        x.row(2, 0);
        Due.finds(x, "lay in an empty one", () -> x.lay(2, 0, 1), Due.BEYOND);
        Due.holds(x, 0, 5, 6);
    }

    private static void at() {
        Sentences.of(4, "Place i of a ROW, told by asked(): 1.");
        SluiceLevels x = new SluiceLevels();
        x.row(0, 40);
        x.row(5, 1);
        x.lay(0, 0, BIG);
        x.lay(0, 39, SMALL);
        x.lay(5, 0, -1);
        Due.tells(x, "the first place", x.at(0, 0), BIG);
        Due.tells(x, "the last place", x.at(0, 39), SMALL);
        Due.tells(x, "the last ROW", x.at(5, 0), -1);
        Due.aside(x, "at", () -> x.at(0, 39));
    }

    private static void atRefused() {
        Sentences.of(4, "BAD;");
        SluiceLevels x = new SluiceLevels();
        Due.fill(x, 0, 5, 6);
        Due.refuses(x, "at(-1)", () -> x.at(-1, 0), Due.BAD);
        Due.refuses(x, "at(6)", () -> x.at(6, 0), Due.BAD);
        Due.refuses(x, "at(BIG)", () -> x.at(BIG, 0), Due.BAD);
        Due.refuses(x, "at(SMALL)", () -> x.at(SMALL, 0), Due.BAD);
        Sentences.of(4, "NOTHING;");
        Due.finds(x, "at a missing one", () -> x.at(5, 0), Due.NOTHING);
        Due.finds(x, "NOTHING ahead of BEYOND", () -> x.at(1, 40), Due.NOTHING);
        Sentences.of(4, "BEYOND.");
        Due.finds(x, "at the size", () -> x.at(0, 2), Due.BEYOND);
        Due.finds(x, "at -1", () -> x.at(0, -1), Due.BEYOND);
        Due.finds(x, "at 40", () -> x.at(0, 40), Due.BEYOND);
        Due.finds(x, "at BIG", () -> x.at(0, BIG), Due.BEYOND);
        Due.finds(x, "at SMALL", () -> x.at(0, SMALL), Due.BEYOND);
        x.row(2, 0);
        Due.finds(x, "at an empty one", () -> x.at(2, 0), Due.BEYOND);
    }

    private static void tear() {
        Sentences.of(5, "A ROW is missing: 1.");
        SluiceLevels x = new SluiceLevels();
        x.row(0, 40);
        x.row(1, 0);
        x.row(5, 1);
        Due.is("a full one", x.tear(0), 1);
        Due.is("two are left", x.count(8), 2);
        Due.is("an empty one", x.tear(1), 1);
        Due.is("the last one", x.tear(5), 1);
        Due.is("none is left", x.count(8), 0);
        Due.finds(x, "at(0, 0)", () -> x.at(0, 0), Due.NOTHING);
        Due.is("made again", x.row(0, 1), 1);
        Due.tells(x, "with 0", x.at(0, 0), 0);
        Sentences.of(5, "BAD;");
        Due.refuses(x, "tear(-1)", () -> x.tear(-1), Due.BAD);
        Due.refuses(x, "tear(6)", () -> x.tear(6), Due.BAD);
        Due.refuses(x, "tear(BIG)", () -> x.tear(BIG), Due.BAD);
        Due.refuses(x, "tear(SMALL)", () -> x.tear(SMALL), Due.BAD);
        Sentences.of(5, "NOTHING.");
        Due.finds(x, "missing at first", () -> x.tear(2), Due.NOTHING);
        Due.finds(x, "missing since", () -> x.tear(5), Due.NOTHING);
    }

    private static void copy() {
        Sentences.of(6, "n places of a ROW, from one on, come to those of another one (perhaps itself) from one on, as if taken ahead: 1.");
        SluiceLevels x = new SluiceLevels();
        Due.fill(x, 0, 1, 2, 3, 4, 5);
        Due.fill(x, 5, 9, 9, 9);
        Due.is("one place", x.copy(0, 4, 5, 2, 1), 1);
        Due.holds(x, 5, 9, 9, 5);
        Due.is("none", x.copy(0, 0, 5, 0, 0), 1);
        Due.is("none, at both ends", x.copy(0, 5, 5, 3, 0), 1);
        Due.holds(x, 5, 9, 9, 5);
        Due.is("all of the shorter one", x.copy(5, 0, 0, 1, 3), 1);
        Due.holds(x, 0, 1, 9, 9, 5, 5);
        Due.fill(x, 0, 1, 2, 3, 4, 5);
        Due.is("itself, one on", x.copy(0, 0, 0, 1, 4), 1);
        Due.holds(x, 0, 1, 1, 2, 3, 4);
        Due.fill(x, 0, 1, 2, 3, 4, 5);
        Due.is("itself, one back", x.copy(0, 1, 0, 0, 4), 1);
        Due.holds(x, 0, 2, 3, 4, 5, 5);
        Due.is("itself, where it is", x.copy(0, 0, 0, 0, 5), 1);
        Due.holds(x, 0, 2, 3, 4, 5, 5);
        Due.holds(x, 5, 9, 9, 5);
        x.row(1, 40);
        x.lay(1, 39, BIG);
        x.row(2, 40);
        Due.is("forty", x.copy(1, 0, 2, 0, 40), 1);
        Due.tells(x, "the fortieth", x.at(2, 39), BIG);
        Due.is("none of an empty one", x.row(3, 0) + x.copy(3, 0, 3, 0, 0), 1);
        Due.is("copy tells nothing by asked()", x.asked(), BIG);
    }

    private static void copyRefused() {
        Sentences.of(6, "BAD;");
        SluiceLevels x = new SluiceLevels();
        Due.fill(x, 0, 1, 2, 3);
        Due.refuses(x, "from -1", () -> x.copy(-1, 0, 0, 0, 1), Due.BAD);
        Due.refuses(x, "from 6", () -> x.copy(6, 0, 0, 0, 1), Due.BAD);
        Due.refuses(x, "to -1", () -> x.copy(0, 0, -1, 0, 1), Due.BAD);
        Due.refuses(x, "to 6", () -> x.copy(0, 0, 6, 0, 1), Due.BAD);
        Sentences.of(6, "SIZE: n below 0;");
        Due.finds(x, "n -1", () -> x.copy(0, 1, 0, 1, -1), Due.SIZE);
        Due.finds(x, "n SMALL", () -> x.copy(0, 0, 0, 0, SMALL), Due.SIZE);
        Sentences.of(6, "NOTHING: either;");
        Due.finds(x, "from a missing one", () -> x.copy(1, 0, 0, 0, 1), Due.NOTHING);
        Due.finds(x, "to a missing one", () -> x.copy(0, 0, 1, 0, 1), Due.NOTHING);
        Due.finds(x, "both are missing", () -> x.copy(1, 0, 2, 0, 0), Due.NOTHING);
        copyBeyond();
    }

    private static void copyBeyond() {
        Sentences.of(6, "BEYOND: not so many there.");
        SluiceLevels x = new SluiceLevels();
        Due.fill(x, 0, 1, 2, 3);
        Due.fill(x, 1, 8, 9);
        Due.finds(x, "one too many from", () -> x.copy(1, 0, 0, 0, 3), Due.BEYOND);
        Due.finds(x, "one too many to", () -> x.copy(0, 0, 1, 0, 3), Due.BEYOND);
        Due.finds(x, "from one too far on", () -> x.copy(1, 1, 0, 0, 2), Due.BEYOND);
        Due.finds(x, "to one too far on", () -> x.copy(0, 0, 1, 1, 2), Due.BEYOND);
        Due.finds(x, "from -1", () -> x.copy(0, -1, 1, 0, 1), Due.BEYOND);
        Due.finds(x, "to -1", () -> x.copy(0, 0, 1, -1, 1), Due.BEYOND);
        Due.finds(x, "from past the int's end", () -> x.copy(0, BIG, 1, 0, 1), Due.BEYOND);
        Due.finds(x, "to past the int's end", () -> x.copy(0, 0, 1, BIG, 1), Due.BEYOND);
        Due.finds(x, "n past the int's end", () -> x.copy(0, 1, 0, 1, BIG), Due.BEYOND);
        Due.finds(x, "from SMALL", () -> x.copy(0, SMALL, 1, 0, BIG), Due.BEYOND);
        Due.finds(x, "to SMALL", () -> x.copy(0, 0, 1, SMALL, 1), Due.BEYOND);
        Due.finds(x, "none from behind the end", () -> x.copy(1, 3, 0, 0, 0), Due.BEYOND);
        Due.finds(x, "none to behind the end", () -> x.copy(0, 0, 1, 3, 0), Due.BEYOND);
        Due.finds(x, "none from -1", () -> x.copy(0, -1, 1, 0, 0), Due.BEYOND);
        Due.finds(x, "none to -1", () -> x.copy(0, 0, 1, -1, 0), Due.BEYOND);
        Due.holds(x, 0, 1, 2, 3);
        Due.holds(x, 1, 8, 9);
    }

    private static void copyInOrder() {
        Sentences.of(6, "(In this order.)");
        SluiceLevels x = new SluiceLevels();
        Due.fill(x, 0, 1, 2, 3);
        Due.refuses(x, "BAD ahead of SIZE, from", () -> x.copy(6, 0, 0, 0, -1), Due.BAD);
        Due.refuses(x, "BAD ahead of SIZE, to", () -> x.copy(0, 0, 6, 0, -1), Due.BAD);
        Due.refuses(x, "BAD ahead of NOTHING", () -> x.copy(1, 0, 6, 0, 1), Due.BAD);
        Due.refuses(x, "BAD ahead of NOTHING", () -> x.copy(-1, 0, 1, 0, 1), Due.BAD);
        Due.finds(x, "SIZE ahead of NOTHING, from", () -> x.copy(1, 0, 0, 0, -1), Due.SIZE);
        Due.finds(x, "SIZE ahead of NOTHING, to", () -> x.copy(0, 0, 1, 0, -1), Due.SIZE);
        Due.finds(x, "SIZE ahead of BEYOND", () -> x.copy(0, 4, 0, 4, -1), Due.SIZE);
        Due.finds(x, "NOTHING (to) ahead of BEYOND (from)", () -> x.copy(0, 4, 1, 0, 1), Due.NOTHING);
        Due.finds(x, "NOTHING (from) ahead of BEYOND (to)", () -> x.copy(1, 0, 0, 4, 1), Due.NOTHING);
    }

    private static void mean() {
        Sentences.of(7, "The mean of a ROW's ints, cut, told by asked(): 1.");
        SluiceLevels x = new SluiceLevels();
        Due.fill(x, 0, 7);
        Due.tells(x, "of one", x.mean(0), 7);
        Due.fill(x, 0, 1, 2);
        Due.tells(x, "3 by 2", x.mean(0), 1);
        Due.fill(x, 0, -1, -2);
        Due.tells(x, "-3 by 2", x.mean(0), -1);
        Due.fill(x, 0, -1, 0);
        Due.tells(x, "-1 by 2", x.mean(0), 0);
        Due.fill(x, 0, BIG, SMALL);
        Due.tells(x, "BIG and SMALL", x.mean(0), 0);
        Due.fill(x, 0, BIG, BIG);
        Due.tells(x, "past the int's end", x.mean(0), BIG);
        Due.fill(x, 5, SMALL, SMALL, SMALL);
        Due.tells(x, "past the int's beginning", x.mean(5), SMALL);
        x.row(1, 40);
        Due.tells(x, "forty times 0", x.mean(1), 0);
        x.lay(1, 39, 80);
        Due.tells(x, "the fortieth counts", x.mean(1), 2);
        for (int i = 0; i < 40; i++) {
            x.lay(1, i, BIG);
        }
        Due.tells(x, "forty times BIG", x.mean(1), BIG);
        Due.aside(x, "mean", () -> x.mean(1));
    }

    private static void meanRefused() {
        Sentences.of(7, "BAD;");
        SluiceLevels x = new SluiceLevels();
        x.row(0, 0);
        Due.refuses(x, "mean(-1)", () -> x.mean(-1), Due.BAD);
        Due.refuses(x, "mean(6)", () -> x.mean(6), Due.BAD);
        Due.refuses(x, "mean(BIG)", () -> x.mean(BIG), Due.BAD);
        Due.refuses(x, "mean(SMALL)", () -> x.mean(SMALL), Due.BAD);
        Sentences.of(7, "NOTHING;");
        Due.finds(x, "of a missing one", () -> x.mean(5), Due.NOTHING);
        Sentences.of(7, "NOUGHT.");
        Due.finds(x, "of an empty one", () -> x.mean(0), Due.NOUGHT);
    }
}

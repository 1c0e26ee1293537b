/** Promises 1 to 7: a new object, rows. */
public final class RowsTest {
    private static final int BIG = Integer.MAX_VALUE, SMALL = Integer.MIN_VALUE;

    public static void main(String[] args) {
        aNewObject();
        row();
        lay();
        at();
        tear();
        copy();
        copyRefusals();
        mean();
        Due.end();
    }

    private static void aNewObject() {
        SluiceLevels x = new SluiceLevels();
        for (int what = 0; what <= 10; what++) {
            Due.is("new: count(" + what + ")", x.count(what), 0);
        }
        Due.is("new: asked()", x.asked(), 0);
        Due.is("new: upper()", x.upper(), 0);
        Due.is("new: lower()", x.lower(), 1);
        Due.is("new: finding()", x.finding(), 0);
        for (int f = 1; f <= 5; f++) {
            Due.is("new: findings(" + f + ")", x.findings(f), 0);
        }
        for (int r = 0; r < 6; r++) {
            Due.finds(x, "new: at(" + r + ", 0)", r, x.at(r, 0), Due.NOTHING);
        }
        for (int t = 0; t < 4; t++) {
            Due.finds(x, "new: fault(" + t + ")", 6 + t, x.fault(t), Due.NOTHING);
        }
        Due.is("new: turn()", x.turn(), Due.STATE);
    }

    private static void row() {
        SluiceLevels x = new SluiceLevels();
        Due.is("row(0, 40)", x.row(0, 40), 40);
        Due.is("row(5, 0)", x.row(5, 0), 0);
        Due.is("count(8)", x.count(8), 2);
        x.lay(0, 39, 7);
        Due.is("row(0, 41)", x.row(0, 41), Due.BAD);
        Due.tells(x, "at(0, 39) as it was", x.at(0, 39), 7);
        Due.is("row(0, 40) anew", x.row(0, 40), 40);
        Due.tells(x, "at(0, 39) anew", x.at(0, 39), 0);
        Due.is("row(-1, 1)", x.row(-1, 1), Due.BAD);
        Due.is("row(6, 1)", x.row(6, 1), Due.BAD);
        Due.is("row(6, -1)", x.row(6, -1), Due.BAD);
        Due.is("no finding by BAD", x.finding(), 0);
        Due.finds(x, "row(1, -1)", 0, x.row(1, -1), Due.SIZE);
        Due.finds(x, "row(0, SMALL)", 1, x.row(0, SMALL), Due.SIZE);
        Due.is("row(0, BIG)", x.row(0, BIG), Due.BAD);
        Due.is("rows as they were", x.count(8), 2);
    }

    private static void lay() {
        SluiceLevels x = new SluiceLevels();
        Due.finds(x, "lay missing", 0, x.lay(2, 0, 5), Due.NOTHING);
        x.row(2, 3);
        Due.tells(x, "lay(2, 0, BIG)", x.lay(2, 0, BIG), 0);
        Due.tells(x, "lay(2, 0, SMALL)", x.lay(2, 0, SMALL), BIG);
        Due.tells(x, "lay(2, 0, 4)", x.lay(2, 0, 4), SMALL);
        Due.tells(x, "lay(2, 2, 9)", x.lay(2, 2, 9), 0);
        Due.finds(x, "lay at size", 0, x.lay(2, 3, 1), Due.BEYOND);
        Due.finds(x, "lay below 0", 1, x.lay(2, -1, 1), Due.BEYOND);
        Due.finds(x, "lay at 40", 2, x.lay(2, 40, 1), Due.BEYOND);
        Due.is("lay(-1)", x.lay(-1, 0, 1), Due.BAD);
        Due.is("lay(6)", x.lay(6, 0, 1), Due.BAD);
        Due.is("asked() by what was not refused", x.asked(), 0);
        Due.tells(x, "places stand", x.at(2, 0), 4);
        Due.tells(x, "places stand", x.at(2, 2), 9);
    }

    private static void at() {
        SluiceLevels x = new SluiceLevels();
        Due.finds(x, "at missing", 0, x.at(0, 0), Due.NOTHING);
        Due.fill(x, 0, 5, -6, 7);
        Due.tells(x, "at(0, 1)", x.at(0, 1), -6);
        Due.finds(x, "at size", 0, x.at(0, 3), Due.BEYOND);
        Due.finds(x, "at below 0", 1, x.at(0, -1), Due.BEYOND);
        Due.finds(x, "at BIG", 2, x.at(0, BIG), Due.BEYOND);
        Due.is("at(6, 0)", x.at(6, 0), Due.BAD);
        Due.is("at(-1, 0)", x.at(-1, 0), Due.BAD);
        Due.is("asked() stays", x.asked(), -6);
        x.row(1, 0);
        Due.finds(x, "at of an empty row", 3, x.at(1, 0), Due.BEYOND);
    }

    private static void tear() {
        SluiceLevels x = new SluiceLevels();
        Due.finds(x, "tear missing", 0, x.tear(3), Due.NOTHING);
        Due.fill(x, 3, 1, 2);
        Due.is("tear(3)", x.tear(3), 1);
        Due.is("count(8)", x.count(8), 0);
        Due.finds(x, "tear again", 1, x.tear(3), Due.NOTHING);
        x.row(3, 0);
        Due.is("tear an empty one", x.tear(3), 1);
        Due.is("tear(-1)", x.tear(-1), Due.BAD);
        Due.is("tear(6)", x.tear(6), Due.BAD);
    }

    private static void copy() {
        SluiceLevels x = new SluiceLevels();
        Due.fill(x, 0, 1, 2, 3, 4, 5);
        Due.fill(x, 1, 9, 9, 9);
        Due.is("copy to another", x.copy(0, 3, 1, 1, 2), 1);
        holds(x, 1, 9, 4, 5);
        Due.is("copy on, in itself", x.copy(0, 0, 0, 1, 4), 1);
        holds(x, 0, 1, 1, 2, 3, 4);
        Due.is("copy back, in itself", x.copy(0, 1, 0, 0, 4), 1);
        holds(x, 0, 1, 2, 3, 4, 4);
        Due.is("copy none at the ends", x.copy(0, 5, 1, 3, 0), 1);
        Due.is("copy all", x.copy(1, 0, 0, 2, 3), 1);
        holds(x, 0, 1, 2, 9, 4, 5);
    }

    private static void copyRefusals() {
        SluiceLevels x = new SluiceLevels();
        Due.fill(x, 0, 1, 2, 3);
        Due.is("copy from 6", x.copy(6, 0, 0, 0, -1), Due.BAD);
        Due.is("copy to -1", x.copy(0, 0, -1, 0, -1), Due.BAD);
        Due.finds(x, "SIZE ahead of NOTHING", 0, x.copy(0, 0, 1, 0, -1), Due.SIZE);
        Due.finds(x, "to nothing", 0, x.copy(0, 9, 1, 0, 1), Due.NOTHING);
        Due.finds(x, "from nothing", 1, x.copy(1, 0, 0, 9, 1), Due.NOTHING);
        Due.fill(x, 1, 7, 8);
        Due.finds(x, "not so many to", 0, x.copy(0, 0, 1, 0, 3), Due.BEYOND);
        Due.finds(x, "not so many from", 1, x.copy(1, 0, 0, 0, 3), Due.BEYOND);
        Due.finds(x, "from below 0", 2, x.copy(0, -1, 1, 0, 1), Due.BEYOND);
        Due.finds(x, "to below 0", 3, x.copy(0, 0, 1, -1, 1), Due.BEYOND);
        Due.finds(x, "n BIG", 4, x.copy(0, 1, 1, 0, BIG), Due.BEYOND);
        Due.finds(x, "i BIG", 5, x.copy(0, BIG, 1, 0, 1), Due.BEYOND);
        Due.finds(x, "none from beyond", 6, x.copy(0, 4, 1, 0, 0), Due.BEYOND);
        holds(x, 0, 1, 2, 3);
        holds(x, 1, 7, 8);
    }

    private static void mean() {
        SluiceLevels x = new SluiceLevels();
        Due.finds(x, "mean of nothing", 0, x.mean(0), Due.NOTHING);
        x.row(0, 0);
        Due.finds(x, "mean of none", 0, x.mean(0), Due.NOUGHT);
        Due.fill(x, 0, 1, 2, 5);
        Due.tells(x, "mean 8 by 3", x.mean(0), 2);
        Due.fill(x, 0, -1, -2, -5);
        Due.tells(x, "mean -8 by 3", x.mean(0), -2);
        Due.fill(x, 0, BIG, BIG, BIG);
        Due.tells(x, "mean of three BIG", x.mean(0), BIG);
        Due.fill(x, 0, SMALL, SMALL, -1);
        Due.tells(x, "mean of SMALL", x.mean(0), (2L * SMALL - 1) / 3);
        Due.fill(x, 0, 40, 60);
        Due.tells(x, "nothing of a longer row is left", x.mean(0), 50);
        Due.fill(x, 0, 7);
        Due.tells(x, "mean of one", x.mean(0), 7);
        Due.is("row of 40", x.row(1, 40), 40);
        x.lay(1, 39, 81);
        Due.tells(x, "mean of 40", x.mean(1), 2);
        Due.is("mean(-1)", x.mean(-1), Due.BAD);
        Due.is("mean(6)", x.mean(6), Due.BAD);
    }

    private static void holds(SluiceLevels x, int r, int... ints) {
        for (int i = 0; i < ints.length; i++) {
            Due.tells(x, "row " + r + " place " + i, x.at(r, i), ints[i]);
        }
    }
}

/** Promises 38 to 44: what is told. */
public final class ToldTest {
    public static void main(String[] args) {
        asked();
        askedStays();
        upperLower();
        count();
        findings();
        digestOfANewOne();
        digestByItsCalls();
        Due.end();
    }

    private static void asked() {
        SluiceLevels x = Due.with("h20g9100s1030");
        Due.fill(x, 0, 11, 12);
        Due.is("lay", x.lay(0, 1, 8), 1);
        Due.is("asked() by lay", x.asked(), 12);
        x.at(0, 0);
        Due.is("asked() by at", x.asked(), 11);
        x.mean(0);
        Due.is("asked() by mean", x.asked(), 9);
        x.basin(2);
        Due.is("asked() by basin", x.asked(), 30);
        x.gate(1, 0);
        Due.is("asked() by gate", x.asked(), 1);
        x.basin(2);
        x.level(0, 1);
        Due.is("asked() by level", x.asked(), 1);
        x.basin(2);
        x.high(0, 20, 1);
        Due.is("asked() by high", x.asked(), 1);
        x.even(1);
        Due.is("asked() by even", x.asked(), 21);
        x.opens(0, 0);
        Due.is("asked() by opens", x.asked(), Due.NONE);
        x.lay(0, 1, 10);
        x.opens(0, 0);
        Due.is("asked() by opens", x.asked(), 1);
        x.basin(2);
        x.sure(0, 0);
        Due.is("asked() by sure", x.asked(), 0);
        x.next(0, 0);
        Due.is("asked() by next", x.asked(), 2);
        x.sets(10);
        Due.is("asked() by sets", x.asked(), 3);
        x.surely(9);
        Due.is("asked() by surely", x.asked(), 2);
        x.duel(0);
        Due.is("asked() by duel", x.asked(), -20);
    }

    private static void askedStays() {
        SluiceLevels x = Due.with("h20g9100s1030");
        Due.fill(x, 0, 11, 12);
        Due.fill(x, 1, 11);
        x.basin(2);
        x.row(3, 4);
        x.copy(0, 0, 3, 0, 1);
        x.tear(3);
        x.text(1, 9);
        x.put(1, 0, 104);
        x.fault(1);
        x.mark(1, 1);
        x.turn();
        x.wind(1);
        x.rain(1, 5);
        x.draw(1, 5);
        x.keep(0);
        x.on(0);
        x.lots(3, 3);
        x.undo(0);
        x.flows(0, 9, 60, 0);
        x.stops();
        x.widths(0, 0, 1);
        x.kinds(0, 0, 1);
        x.odds(0, 20, 1);
        x.mid(0, 1);
        x.count(3);
        x.finding();
        x.findings(1);
        x.digest();
        x.high(0, 60, 1);
        x.at(0, 2);
        x.basin(3);
        x.gate(0, 4);
        x.bridge(0);
        Due.is("asked() by none of these", x.asked(), 30);
    }

    private static void upperLower() {
        SluiceLevels x = Due.with("h20g9110");
        Due.is("upper() ahead", x.upper(), 0);
        Due.is("lower() ahead", x.lower(), 1);
        Due.part(x, "odds", x.odds(0, 16, 8), 2, 3);
        x.odds(0, 61, 8);
        x.mid(0, 13);
        x.sets(-1);
        x.opens(0, 0);
        Due.is("upper() as it was", x.upper(), 2);
        Due.is("lower() as it was", x.lower(), 3);
        Due.part(x, "sets", x.sets(9), 1, 1);
        Due.part(x, "mid", x.mid(0, 6), 35, 2);
        Due.fill(x, 0, 20);
        Due.part(x, "opens", x.opens(0, 0), 1, 1);
        Due.part(x, "mid", x.mid(0, 6), 35, 2);
        Due.fill(x, 0, 0);
        Due.part(x, "opens of none", x.opens(0, 0), 0, 1);
    }

    private static void count() {
        SluiceLevels x = Due.with("h40g5110s3025p2107w4030l6119e1002");
        x.turn();
        x.wind(0);
        x.row(5, 0);
        x.row(4, 1);
        x.text(3, 0);
        x.keep(1);
        int[] due = {6, 1, 2, 28, 133, 33, 2, 2, 2, 2, 1};
        for (int what = 0; what <= 10; what++) {
            Due.is("count(" + what + ")", x.count(what), due[what]);
        }
        x = Due.with("h40l5010w3025w2007e1002");
        int[] first = {4, 0, 0, 6, 84, 38, 1, 1};
        for (int what = 0; what < first.length; what++) {
            Due.is("a LOCK first: count(" + what + ")", x.count(what), first[what]);
        }
        Due.is("an ENGINE first", Due.with("h40e5010").count(7), 1);
        Due.is("count(-1)", x.count(-1), Due.BAD);
        Due.is("count(11)", x.count(11), Due.BAD);
    }

    private static void findings() {
        SluiceLevels x = Due.with("h40g5110");
        Due.is("none yet", x.finding(), 0);
        x.tear(0);
        Due.is("NOTHING", x.finding(), 1);
        x.row(0, 0);
        x.at(0, 0);
        Due.is("BEYOND", x.finding(), 2);
        x.mark(0, 3);
        Due.is("UNLIKE", x.finding(), 3);
        x.mean(0);
        Due.is("NOUGHT", x.finding(), 4);
        x.row(0, -1);
        Due.is("SIZE", x.finding(), 5);
        x.on(0);
        Due.is("NOTHING again", x.finding(), 1);
        x.row(0, 41);
        x.on(3);
        x.turn();
        Due.is("NOTHING yet", x.finding(), 1);
        int[] times = {2, 1, 1, 1, 1};
        for (int f = 1; f <= 5; f++) {
            Due.is("findings(" + f + ")", x.findings(f), times[f - 1]);
        }
        Due.is("findings(0)", x.findings(0), Due.BAD);
        Due.is("findings(6)", x.findings(6), Due.BAD);
        Due.is("findings(-1)", x.findings(-1), Due.BAD);
    }

    private static void digestOfANewOne() {
        long h = 17;
        for (int k = 0; k < 11; k++) {
            h = 31 * h;
        }
        for (int k = 0; k < 3 + 6 + 4; k++) {
            h = 31 * h - 1;
        }
        Due.is("digest of a new one", new SluiceLevels().digest(), h);
    }

    private static void digestByItsCalls() {
        SluiceLevels x = Due.with("h40g5110w3025e2007");
        x.turn();
        x.keep(1);
        x.turn();
        Due.fill(x, 0, 3, -4, Integer.MAX_VALUE);
        x.row(5, 0);
        x.text(2, 2);
        x.put(2, 1, 200);
        x.basin(1);
        int asked = x.asked();
        long got = x.digest();
        Due.is("asked() stays", x.asked(), asked);
        long h = 17;
        for (int what = 0; what <= 10; what++) {
            h = 31 * h + x.count(what);
        }
        for (int b = 0; b <= 3; b++) {
            x.basin(b);
            h = 31 * h + x.asked();
        }
        for (int i = 0; i < 3; i++) {
            for (int what = 0; what <= 3; what++) {
                x.gate(i, what);
                h = 31 * h + x.asked();
            }
        }
        long[] rest = {-1, 1, -1, 3, 3, -4, Integer.MAX_VALUE, -1, -1, -1, -1, 0, 18};
        for (long v : rest) {
            h = 31 * h + v;
        }
        for (char c : "h40g5110w3025e2007".toCharArray()) {
            h = 31 * h + c;
        }
        long[] last = {-1, 2, 32, -56, -1};
        for (long v : last) {
            h = 31 * h + v;
        }
        Due.is("digest", got, h);
    }
}

import java.util.Random;

/** Random runs of at most 512 calls (of fixed seeds) against the Model: every answer, and what is told behind each call. */
public final class RandomRunsTest {
    private static final int RUNS = 700, CALLS = 512;

    private final Random random;
    private final SluiceLevels x = new SluiceLevels();
    private final Model m = new Model();
    private final int run;
    private int calls = 0;

    private RandomRunsTest(int run) {
        this.run = run;
        random = new Random(run);
    }

    public static void main(String[] args) {
        for (int run = 1; run <= RUNS; run++) {
            new RandomRunsTest(run).play();
        }
        Due.end();
    }

    private void same(String call, long got, long want) {
        Due.is("run " + run + ", call " + calls + ", " + call, got, want);
        calls++;
    }

    private void play() {
        // Some runs begin with refusals for want of GATES.
        if (random.nextInt(4) > 0) {
            writeBridge();
        }
        while (calls < CALLS - 80) {
            oneCall();
            tellAll();
        }
        same("digest", x.digest(), m.digest());
    }

    private void tellAll() {
        same("asked", x.asked(), m.asked());
        if (random.nextInt(3) == 0) {
            same("upper", x.upper(), m.upper());
            same("lower", x.lower(), m.lower());
            same("finding", x.finding(), m.finding());
        }
        if (random.nextInt(12) == 0) {
            same("digest", x.digest(), m.digest());
        }
    }

    /** Mostly of least .. most, now and then just beyond, or far off. */
    private int number(int least, int most) {
        int how = random.nextInt(60);
        if (how == 0) {
            return least - 1;
        }
        if (how == 1) {
            return most + 1;
        }
        if (how == 2) {
            return random.nextInt();
        }
        if (how < 6) {
            return how == 3 ? most : least;
        }
        return least + random.nextInt(most - least + 1);
    }

    private String levelText() {
        int v = random.nextInt(6) == 0 ? 60 * random.nextInt(2) : random.nextInt(61);
        return "" + v / 10 + v % 10;
    }

    private void writeBridge() {
        StringBuilder s = new StringBuilder(" ".repeat(random.nextInt(2)) + "h" + levelText());
        int gates = random.nextInt(14) == 0 ? random.nextInt(9) : 1 + random.nextInt(6);
        for (int i = 0; i < gates; i++) {
            s.append(" ".repeat(random.nextInt(2))).append("gspwle".charAt(random.nextInt(6)));
            s.append(1 + random.nextInt(9)).append(random.nextInt(2)).append(levelText());
        }
        if (random.nextInt(4) == 0) {
            spoil(s);
        }
        int t = random.nextInt(4);
        int n = Math.min(60, s.length());
        same("text", x.text(t, n), m.text(t, n));
        for (int i = 0; i < n; i++) {
            char c = s.charAt(i);
            same("put", x.put(t, i, c), m.put(t, i, c));
        }
        same("fault of " + s, x.fault(t), m.fault(t));
        same("bridge", x.bridge(t), m.bridge(t));
    }

    private void spoil(StringBuilder s) {
        int p = random.nextInt(s.length() + 1);
        switch (random.nextInt(4)) {
            case 0 -> s.setLength(p);
            case 1 -> s.insert(p, ' ');
            case 2 -> s.insert(p, "hgx0179".charAt(random.nextInt(7)));
            default -> s.replace(Math.max(0, p - 1), p, "" + "hgx 01269~".charAt(random.nextInt(10)));
        }
    }

    private int gates() {
        return Math.max(1, m.count(0));
    }

    private int aGate() {
        return number(0, gates() - 1);
    }

    private int aBasin() {
        return number(0, gates());
    }

    private void oneCall() {
        int what = random.nextInt(48);
        if (what < 12) {
            rowsAndTexts(what);
        } else if (what < 26) {
            deeds(what);
        } else if (what < 34) {
            ahead(what);
        } else if (what < 41) {
            seen(what);
        } else {
            chances(what);
        }
    }

    private void rowsAndTexts(int what) {
        int r = number(0, 5), i = number(0, 6), j = number(0, 6), to = number(0, 5);
        int v = random.nextInt(3) == 0 ? random.nextInt() : random.nextInt(61);
        int t = number(0, 3);
        switch (what) {
            case 0 -> {
                int n = random.nextInt(3) == 0 ? number(0, 40) : number(0, 7);
                same("row", x.row(r, n), m.row(r, n));
            }
            case 1, 2 -> same("lay", x.lay(r, i, v), m.lay(r, i, v));
            case 3 -> same("at", x.at(r, i), m.at(r, i));
            case 4 -> {
                if (random.nextInt(4) == 0) {
                    same("tear", x.tear(r), m.tear(r));
                }
            }
            case 5 -> {
                int n = number(0, 5);
                same("copy", x.copy(r, i, to, j, n), m.copy(r, i, to, j, n));
            }
            case 6 -> same("mean", x.mean(r), m.mean(r));
            case 7 -> {
                if (random.nextInt(3) == 0) {
                    int n = number(0, 60);
                    same("text", x.text(t, n), m.text(t, n));
                }
            }
            case 8 -> same("put", x.put(t, i, v), m.put(t, i, v));
            case 9 -> same("fault", x.fault(t), m.fault(t));
            case 10 -> {
                if (random.nextInt(5) == 0 || m.count(0) == 0) {
                    writeBridge();
                }
            }
            default -> {
                int b = random.nextInt(9) == 0 ? t : -1;
                same("bridge", x.bridge(b), m.bridge(b));
            }
        }
    }

    private void deeds(int what) {
        int i = aGate(), b = aBasin(), n = number(1, 9), k = number(0, 2);
        switch (what) {
            case 12, 13, 14 -> same("turn", x.turn(), m.turn());
            case 15, 16 -> same("wind", x.wind(i), m.wind(i));
            case 17, 18 -> same("rain", x.rain(b, n), m.rain(b, n));
            case 19, 20 -> same("draw", x.draw(b, n), m.draw(b, n));
            case 21 -> {
                int to = number(0, m.count(2));
                same("undo", x.undo(to), m.undo(to));
            }
            case 22 -> same("keep", x.keep(k), m.keep(k));
            case 23 -> same("on", x.on(k), m.on(k));
            default -> {
                int many = number(1, 20), seed = random.nextInt(9) == 0 ? number(1, 2) : random.nextInt();
                same("lots", x.lots(many, seed), m.lots(many, seed));
            }
        }
    }

    private void ahead(int what) {
        int i = aGate(), b = aBasin(), v = number(0, 60), n = number(1, 20);
        switch (what) {
            case 26 -> same("basin", x.basin(b), m.basin(b));
            case 27 -> {
                int fact = number(0, 3);
                same("gate", x.gate(i, fact), m.gate(i, fact));
            }
            case 28 -> {
                int kind = number(1, 5);
                same("mark", x.mark(i, kind), m.mark(i, kind));
            }
            case 29 -> {
                int behind = number(0, 60), number = number(0, 99);
                same("flows", x.flows(i, v, behind, number), m.flows(i, v, behind, number));
            }
            case 30 -> {
                int many = number(0, 40);
                same("level", x.level(b, many), m.level(b, many));
            }
            case 31 -> same("stops", x.stops(), m.stops());
            case 32 -> same("high", x.high(b, v, n), m.high(b, v, n));
            default -> same("even", x.even(n), m.even(n));
        }
    }

    /** Mostly a row as the basin will stand with some gates wound: else hardly a set would fit. */
    private int seenRow(int b) {
        int r = number(0, 5);
        if (random.nextInt(4) == 0 || r < 0 || r > 5 || b < 0 || b > m.count(0) || m.count(0) == 0) {
            return r;
        }
        int deeds = m.count(2);
        int wound = random.nextInt(3);
        for (int k = 0; k < wound; k++) {
            int i = random.nextInt(gates());
            same("wind", x.wind(i), m.wind(i));
        }
        int n = number(1, random.nextBoolean() ? 2 : 10);
        same("row", x.row(r, n), m.row(r, n));
        for (int t = 0; t < Math.min(10, n); t++) {
            int v = m.level(b, t + 1);
            same("level", x.level(b, t + 1), v);
            same("lay", x.lay(r, t, v), m.lay(r, t, v));
        }
        if (random.nextInt(4) > 0) {
            same("undo", x.undo(deeds), m.undo(deeds));
        }
        return r;
    }

    private void seen(int what) {
        int i = aGate(), b = aBasin(), r = seenRow(b);
        switch (what) {
            case 34 -> same("opens", x.opens(b, r), m.opens(b, r));
            case 35 -> same("sure", x.sure(b, r), m.sure(b, r));
            case 36 -> same("next", x.next(b, r), m.next(b, r));
            case 37, 38 -> same("widths", x.widths(i, b, r), m.widths(i, b, r));
            default -> same("kinds", x.kinds(i, b, r), m.kinds(i, b, r));
        }
    }

    private void chances(int what) {
        int b = aBasin(), v = random.nextInt(3) == 0 ? number(0, 60) : number(0, 25), p = number(0, 12);
        switch (what) {
            case 41 -> same("sets", x.sets(v), m.sets(v));
            case 42 -> same("surely", x.surely(v), m.surely(v));
            case 43 -> {
                int n = random.nextInt(3) == 0 ? number(0, 2) : number(0, 1);
                same("duel", x.duel(n), m.duel(n));
            }
            case 44 -> same("odds", x.odds(b, v, p), m.odds(b, v, p));
            case 45 -> same("mid", x.mid(b, p), m.mid(b, p));
            case 46 -> {
                int counted = number(0, 10);
                same("count", x.count(counted), m.count(counted));
            }
            default -> {
                int f = number(1, 5);
                same("findings", x.findings(f), m.findings(f));
            }
        }
    }
}

import java.math.BigInteger;
import java.util.ArrayList;
import java.util.HashMap;
import java.util.List;
import java.util.Map;
import java.util.TreeSet;
import java.util.regex.Matcher;
import java.util.regex.Pattern;

/** The document told a second time, slowly: DEEDS are played anew from the start, chances and duels by branching. */
final class Model {
    static final int BAD = -1, FULL = -2, FINDING = -3, STATE = -4, NONE = -9;

    /** A state of water that is never changed. */
    record Water(String kinds, List<Integer> widths, List<Boolean> open, List<Integer> levels, int number, int moved) {
        int gates() {
            return kinds.length();
        }

        boolean isOpen(int i) {
            return kinds.charAt(i) == 'w' || open.get(i);
        }

        Water withOpen(int i, boolean to) {
            List<Boolean> list = new ArrayList<>(open);
            list.set(i, to);
            return new Water(kinds, widths, list, levels, number, moved);
        }

        Water withLevel(int b, int v) {
            List<Integer> list = new ArrayList<>(levels);
            list.set(b, Math.max(0, Math.min(60, v)));
            return new Water(kinds, widths, open, list, number, moved);
        }

        Water withWidth(int i, int w) {
            List<Integer> list = new ArrayList<>(widths);
            list.set(i, w);
            return new Water(kinds, list, open, levels, number, moved);
        }

        Water withKind(int i, char k) {
            return new Water(kinds.substring(0, i) + k + kinds.substring(i + 1), widths, open, levels, number, moved);
        }

        Water withSet(int set) {
            Water w = this;
            for (int i = 0; i < gates(); i++) {
                if (kinds.charAt(i) != 'w') {
                    w = w.withOpen(i, (set & 1 << i) != 0);
                }
            }
            return w;
        }

        int flow(int i) {
            return flowBetween(kinds.charAt(i), widths.get(i), levels.get(i), levels.get(i + 1), number);
        }

        Water turn(int stuck) {
            Water w = new Water(kinds, widths, open, levels, number, 0);
            int bits = 0;
            for (int i = 0; i < gates(); i++) {
                if ((stuck & 1 << i) == 0 && isOpen(i) && w.flow(i) != 0) {
                    int f = w.flow(i);
                    w = w.withLevel(i, w.levels.get(i) - f).withLevel(i + 1, w.levels.get(i + 1) + f);
                    bits += 1 << i;
                }
            }
            return new Water(kinds, widths, open, w.levels, number + 1, bits);
        }

        Water turns(int n) {
            return n == 0 ? this : turn(0).turns(n - 1);
        }

        int spread() {
            TreeSet<Integer> all = new TreeSet<>(levels);
            return all.last() - all.first();
        }
    }

    static int flowBetween(char kind, int width, int ahead, int behind, int number) {
        int apart = Math.abs(ahead - behind);
        int sign = ahead > behind ? 1 : -1;
        switch (kind) {
            case 'g': return sign * Math.min(width, apart / 2);
            case 'w': return sign * Math.min(width, Math.max(apart - 5, 0) / 2);
            case 's': return ahead > behind ? Math.min(width, apart / 2) : 0;
            case 'l': return number % 2 == 0 ? flowBetween('s', width, ahead, behind, number) : 0;
            case 'p': return -Math.min(width, Math.min(behind, 60 - ahead));
            default: return flowBetween('p', number % 3 == 0 ? width + width : width, ahead, behind, number);
        }
    }

    private record Kept(Water start, List<String> deeds) {
    }

    private final List<List<Integer>> rows = new ArrayList<>();
    private final List<List<Integer>> texts = new ArrayList<>();
    private final List<Kept> kept = new ArrayList<>();
    private final int[] times = new int[6];
    private Water start = null;
    private List<String> deeds = new ArrayList<>();
    private int finding = 0;
    private int asked = 0;
    private BigInteger upper = BigInteger.ZERO, lower = BigInteger.ONE;

    Model() {
        for (int k = 0; k < 6; k++) {
            rows.add(null);
        }
        for (int k = 0; k < 4; k++) {
            texts.add(null);
        }
        for (int k = 0; k < 3; k++) {
            kept.add(null);
        }
    }

    private Water now() {
        Water w = start;
        for (String deed : deeds) {
            String[] words = deed.split(" ");
            int i = words.length > 1 ? Integer.parseInt(words[1]) : 0;
            if (words[0].equals("turn")) {
                w = w.turn(0);
            } else if (words[0].equals("wind")) {
                w = w.kinds.charAt(i) == 'w' ? w : w.withOpen(i, !w.open.get(i));
            } else {
                w = w.withLevel(i, w.levels.get(i) + Integer.parseInt(words[2]));
            }
        }
        return w;
    }

    private int refuse(int f) {
        finding = f;
        times[f]++;
        return FINDING;
    }

    private static boolean in(long v, long least, long most) {
        return v >= least && v <= most;
    }

    private boolean isGate(int i) {
        return start != null && in(i, 0, start.gates() - 1);
    }

    private boolean isBasin(int b) {
        return in(b, 0, start.gates());
    }

    private int tells(int v) {
        asked = v;
        return 1;
    }

    private int tellsPart(BigInteger up, BigInteger low) {
        BigInteger d = up.gcd(low);
        upper = up.divide(d);
        lower = low.divide(d);
        return 1;
    }

    private int made(List<List<Integer>> list, int k, int n, int most, int v) {
        if (!in(k, 0, list.size() - 1) || n > most) {
            return BAD;
        }
        if (n < 0) {
            return refuse(5);
        }
        List<Integer> made = new ArrayList<>();
        for (int i = 0; i < n; i++) {
            made.add(v);
        }
        list.set(k, made);
        return n;
    }

    private int refusalOfPlace(List<List<Integer>> list, int k, int i) {
        if (!in(k, 0, list.size() - 1)) {
            return BAD;
        }
        if (list.get(k) == null) {
            return refuse(1);
        }
        return in(i, 0, list.get(k).size() - 1) ? 0 : refuse(2);
    }

    int row(int r, int n) {
        return made(rows, r, n, 40, 0);
    }

    int lay(int r, int i, int v) {
        int no = refusalOfPlace(rows, r, i);
        return no != 0 ? no : tells(rows.get(r).set(i, v));
    }

    int at(int r, int i) {
        int no = refusalOfPlace(rows, r, i);
        return no != 0 ? no : tells(rows.get(r).get(i));
    }

    int tear(int r) {
        if (!in(r, 0, 5)) {
            return BAD;
        }
        return rows.set(r, null) == null ? refuse(1) : 1;
    }

    int copy(int r, int i, int to, int j, int n) {
        if (!in(r, 0, 5) || !in(to, 0, 5)) {
            return BAD;
        }
        if (n < 0) {
            return refuse(5);
        }
        if (rows.get(r) == null || rows.get(to) == null) {
            return refuse(1);
        }
        if (i < 0 || j < 0 || (long) i + n > rows.get(r).size() || (long) j + n > rows.get(to).size()) {
            return refuse(2);
        }
        List<Integer> taken = new ArrayList<>(rows.get(r).subList(i, i + n));
        for (int k = 0; k < n; k++) {
            rows.get(to).set(j + k, taken.get(k));
        }
        return 1;
    }

    int mean(int r) {
        if (!in(r, 0, 5)) {
            return BAD;
        }
        if (rows.get(r) == null) {
            return refuse(1);
        }
        if (rows.get(r).isEmpty()) {
            return refuse(4);
        }
        BigInteger sum = BigInteger.ZERO;
        for (int v : rows.get(r)) {
            sum = sum.add(BigInteger.valueOf(v));
        }
        return tells(sum.divide(BigInteger.valueOf(rows.get(r).size())).intValueExact());
    }

    int text(int t, int n) {
        return made(texts, t, n, 60, 32);
    }

    int put(int t, int i, int v) {
        int no = refusalOfPlace(texts, t, i);
        if (no != 0) {
            return no;
        }
        int cut = Math.floorMod(v, 256);
        return texts.get(t).set(i, cut > 127 ? cut - 256 : cut) + 1000;
    }

    private String textOf(int t) {
        StringBuilder s = new StringBuilder();
        for (int v : texts.get(t)) {
            s.append((char) (v + (v < 0 ? 256 : 0)));
        }
        return s.toString();
    }

    private static final Pattern LEVEL = Pattern.compile("[0-5][0-9]|60");
    private static final Pattern WHOLE = Pattern.compile(" *h([0-5][0-9]|60)( *[gspwle][1-9][01]([0-5][0-9]|60)){1,6} *");
    private static final Pattern ONE_GATE = Pattern.compile("([gspwle])([1-9])([01])([0-9][0-9])");

    /** The longest beginning that some BRIDGE has (or figures for a LEVEL that is none, told by the first of both). */
    private static int faultOf(String s) {
        if (WHOLE.matcher(s).matches()) {
            return NONE;
        }
        String item = "h..";
        int place = 0;
        int gates = -1;
        for (int p = 0; p < s.length(); p++) {
            char c = s.charAt(p);
            if (place == 0 && c == ' ') {
                continue;
            }
            if (place == 0 && gates == 6) {
                return p;
            }
            boolean fits = switch (gates < 0 && place > 0 ? place + 2 : gates < 0 ? -1 : place) {
                case -1 -> c == 'h';
                case 0 -> "gspwle".indexOf(c) >= 0;
                case 1 -> c >= '1' && c <= '9';
                case 2 -> c == '0' || c == '1';
                default -> c >= '0' && c <= '9';
            };
            if (!fits) {
                return p;
            }
            place++;
            if (place == item.length()) {
                if (!LEVEL.matcher(s.substring(p - 1, p + 1)).matches()) {
                    return p - 1;
                }
                gates++;
                place = 0;
                item = "....." ;
            }
        }
        return s.length();
    }

    int fault(int t) {
        if (!in(t, 0, 3)) {
            return BAD;
        }
        return texts.get(t) == null ? refuse(1) : faultOf(textOf(t));
    }

    int bridge(int t) {
        if (!in(t, 0, 3)) {
            return BAD;
        }
        if (texts.get(t) == null) {
            return refuse(1);
        }
        String s = textOf(t);
        if (faultOf(s) != NONE) {
            return STATE;
        }
        StringBuilder kinds = new StringBuilder();
        List<Integer> widths = new ArrayList<>(), levels = new ArrayList<>();
        List<Boolean> open = new ArrayList<>();
        int h = s.indexOf('h');
        levels.add(Integer.parseInt(s.substring(h + 1, h + 3)));
        Matcher m = ONE_GATE.matcher(s);
        while (m.find()) {
            kinds.append(m.group(1));
            widths.add(Integer.parseInt(m.group(2)));
            open.add(m.group(3).equals("1"));
            levels.add(Integer.parseInt(m.group(4)));
        }
        start = new Water(kinds.toString(), widths, open, levels, 0, 0);
        deeds = new ArrayList<>();
        for (int k = 0; k < 3; k++) {
            kept.set(k, null);
        }
        return start.gates();
    }

    int basin(int b) {
        if (start == null) {
            return STATE;
        }
        return isBasin(b) ? tells(now().levels.get(b)) : BAD;
    }

    int gate(int i, int what) {
        if (!isGate(i) || !in(what, 0, 3)) {
            return BAD;
        }
        Water w = now();
        int[] told = {"gspwle".indexOf(w.kinds.charAt(i)), w.widths.get(i), w.isOpen(i) ? 1 : 0, w.isOpen(i) ? w.flow(i) : 0};
        return tells(told[what]);
    }

    int mark(int i, int kind) {
        if (!isGate(i) || !in(kind, 1, 5)) {
            return BAD;
        }
        Water w = now();
        char is = w.kinds.charAt(i);
        String those = new String[] {"", "sl", "pe", "w", "l", "e"}[kind];
        if (those.indexOf(is) < 0) {
            return refuse(3);
        }
        int ahead = w.levels.get(i), behind = w.levels.get(i + 1);
        if (kind == 1) {
            return Math.abs(w.withKind(i, 'g').flow(i)) - w.flow(i);
        }
        if (kind == 2) {
            return 60 - ahead;
        }
        if (kind == 3) {
            return Math.abs(ahead - behind);
        }
        int turns = 0;
        while (kind == 4 ? (w.number + turns) % 2 == 0 : (w.number + turns) % 3 != 0) {
            turns++;
        }
        return turns;
    }

    private int deed(String deed) {
        deeds.add(deed);
        return 0;
    }

    int turn() {
        if (start == null) {
            return STATE;
        }
        if (deeds.size() >= 40) {
            return FULL;
        }
        int bits = now().turn(0).moved;
        return deed("turn") + bits;
    }

    int wind(int i) {
        if (!isGate(i)) {
            return BAD;
        }
        if (start.kinds.charAt(i) == 'w') {
            return STATE;
        }
        if (deeds.size() >= 40) {
            return FULL;
        }
        return deed("wind " + i) + (now().isOpen(i) ? 1 : 0);
    }

    private int water(int b, int n, int by, int end) {
        if (start == null) {
            return STATE;
        }
        if (!isBasin(b) || !in(n, 1, 9)) {
            return BAD;
        }
        if (now().levels.get(b) == end) {
            return STATE;
        }
        if (deeds.size() >= 40) {
            return FULL;
        }
        return deed("water " + b + " " + by) + now().levels.get(b);
    }

    int rain(int b, int n) {
        return water(b, n, n, 60);
    }

    int draw(int b, int n) {
        return water(b, n, -n, 0);
    }

    int undo(int n) {
        if (!in(n, 0, deeds.size())) {
            return BAD;
        }
        int gone = deeds.size() - n;
        deeds = new ArrayList<>(deeds.subList(0, n));
        return gone;
    }

    int keep(int k) {
        if (!in(k, 0, 2)) {
            return BAD;
        }
        if (start == null) {
            return STATE;
        }
        kept.set(k, new Kept(start, new ArrayList<>(deeds)));
        return deeds.size();
    }

    int on(int k) {
        if (!in(k, 0, 2)) {
            return BAD;
        }
        if (kept.get(k) == null) {
            return refuse(1);
        }
        start = kept.get(k).start;
        deeds = new ArrayList<>(kept.get(k).deeds);
        return deeds.size();
    }

    int flows(int i, int ahead, int behind, int number) {
        if (!isGate(i) || !in(ahead, 0, 60) || !in(behind, 0, 60) || !in(number, 0, 99)) {
            return BAD;
        }
        return flowBetween(start.kinds.charAt(i), start.widths.get(i), ahead, behind, number);
    }

    int level(int b, int n) {
        if (start == null) {
            return STATE;
        }
        if (!isBasin(b) || !in(n, 0, 40)) {
            return BAD;
        }
        Water w = now().turns(n);
        tells(n == 0 ? 0 : w.moved);
        return w.levels.get(b);
    }

    int stops() {
        if (start == null) {
            return STATE;
        }
        for (int n = 0; n <= 40; n++) {
            int moved = 0;
            for (int more = 1; more <= 6; more++) {
                moved |= now().turns(n + more).moved;
            }
            if (moved == 0) {
                return n;
            }
        }
        return NONE;
    }

    /** Each set of GATES without WEIRS, in the order of their bits. */
    private List<Integer> setsOf(Water w) {
        List<Integer> all = new ArrayList<>();
        for (int set = 0; set < 1 << w.gates(); set++) {
            boolean weir = false;
            for (int i = 0; i < w.gates(); i++) {
                weir |= (set & 1 << i) != 0 && w.kinds.charAt(i) == 'w';
            }
            if (!weir) {
                all.add(set);
            }
        }
        return all;
    }

    int high(int b, int v, int n) {
        if (start == null) {
            return STATE;
        }
        if (!isBasin(b) || !in(v, 0, 60) || !in(n, 1, 20)) {
            return BAD;
        }
        Water w = now();
        for (int many = 0; many <= 6; many++) {
            for (int set : setsOf(w)) {
                Water wound = w;
                for (int i = 0; i < w.gates(); i++) {
                    if ((set & 1 << i) != 0) {
                        wound = wound.withOpen(i, !wound.open.get(i));
                    }
                }
                if (Integer.bitCount(set) == many && wound.turns(n).levels.get(b) >= v) {
                    tells(set);
                    return many;
                }
            }
        }
        return NONE;
    }

    int even(int n) {
        if (start == null) {
            return STATE;
        }
        if (!in(n, 1, 20)) {
            return BAD;
        }
        Water w = now();
        int least = 1000;
        for (int set : setsOf(w)) {
            least = Math.min(least, w.withSet(set).turns(n).spread());
        }
        tells(least);
        for (int set : setsOf(w)) {
            if (w.withSet(set).turns(n).spread() == least) {
                return set;
            }
        }
        return NONE;
    }

    private int refusalOfSeen(boolean fits, int b, int r) {
        if (start == null) {
            return STATE;
        }
        if (!fits || !isBasin(b) || !in(r, 0, 5)) {
            return BAD;
        }
        if (rows.get(r) == null) {
            return refuse(1);
        }
        if (!in(rows.get(r).size(), 1, 10)) {
            return refuse(5);
        }
        for (int v : rows.get(r)) {
            if (!in(v, 0, 60)) {
                return refuse(3);
            }
        }
        return 0;
    }

    private boolean stood(Water w, int b, int r) {
        for (int t = 0; t < rows.get(r).size(); t++) {
            if (!w.turns(t + 1).levels.get(b).equals(rows.get(r).get(t))) {
                return false;
            }
        }
        return true;
    }

    private List<Integer> found(int b, int r) {
        List<Integer> all = new ArrayList<>();
        for (int set : setsOf(now())) {
            if (stood(now().withSet(set), b, r)) {
                all.add(set);
            }
        }
        return all;
    }

    private int tellsSets(List<Integer> all) {
        tellsPart(BigInteger.valueOf(all.size()), BigInteger.ONE);
        return tells(all.isEmpty() ? NONE : all.get(0));
    }

    /** Which GATES are so (in each: 1, in none: 0) in all of these sets. */
    private int always(List<Integer> all, int among, int bit) {
        int bits = 0;
        for (int i = 0; i < 6; i++) {
            boolean so = (among & 1 << i) != 0;
            for (int set : all) {
                so &= (set >> i & 1) == bit;
            }
            bits += so ? 1 << i : 0;
        }
        return bits;
    }

    int opens(int b, int r) {
        int no = refusalOfSeen(true, b, r);
        return no != 0 ? no : tellsSets(found(b, r));
    }

    int sure(int b, int r) {
        int no = refusalOfSeen(true, b, r);
        if (no != 0) {
            return no;
        }
        List<Integer> possible = setsOf(now());
        int windable = possible.get(possible.size() - 1);
        tells(always(found(b, r), windable, 0));
        return always(found(b, r), windable, 1);
    }

    int next(int b, int r) {
        int no = refusalOfSeen(true, b, r);
        if (no != 0) {
            return no;
        }
        List<Integer> all = found(b, r);
        int best = NONE;
        int least = 1000;
        for (int seen = 0; seen <= start.gates() && !all.isEmpty(); seen++) {
            Map<Integer, Integer> parts = new HashMap<>();
            for (int set : all) {
                parts.merge(now().withSet(set).turns(rows.get(r).size()).levels.get(seen), 1, Integer::sum);
            }
            int greatest = parts.values().stream().max(Integer::compare).get();
            if (greatest < least) {
                least = greatest;
                best = seen;
            }
        }
        if (best != NONE) {
            tells(least);
        }
        return best;
    }

    int widths(int i, int b, int r) {
        int no = refusalOfSeen(isGate(i), b, r);
        int bits = no;
        for (int w = 1; w <= 9 && no == 0; w++) {
            bits += stood(now().withWidth(i, w), b, r) ? 1 << w : 0;
        }
        return bits;
    }

    int kinds(int i, int b, int r) {
        int no = refusalOfSeen(isGate(i), b, r);
        int bits = no;
        for (int k = 0; k < 6 && no == 0; k++) {
            bits += stood(now().withKind(i, "gspwle".charAt(k)), b, r) ? 1 << k : 0;
        }
        return bits;
    }

    private List<Integer> ofWidth(int v) {
        List<Integer> all = new ArrayList<>();
        for (int set = 0; set < 1 << start.gates(); set++) {
            int sum = 0;
            for (int i = 0; i < start.gates(); i++) {
                sum += (set >> i & 1) * start.widths.get(i);
            }
            if (sum == v) {
                all.add(set);
            }
        }
        return all;
    }

    int sets(int v) {
        if (!in(v, 0, 54)) {
            return BAD;
        }
        return start == null ? STATE : tellsSets(ofWidth(v));
    }

    int surely(int v) {
        if (!in(v, 0, 54)) {
            return BAD;
        }
        if (start == null) {
            return STATE;
        }
        List<Integer> all = ofWidth(v);
        if (all.isEmpty()) {
            return refuse(4);
        }
        int among = (1 << start.gates()) - 1;
        tells(always(all, among, 0));
        return always(all, among, 1);
    }

    private int play(Water w, int left) {
        if (left == 0) {
            Water end = w.turns(3);
            return end.levels.get(0) - end.levels.get(end.gates());
        }
        int best = play(w, left - 1);
        for (int i = 0; i < w.gates(); i++) {
            if (w.kinds.charAt(i) != 'w') {
                int v = play(w.withOpen(i, !w.open.get(i)), left - 1);
                best = left % 2 == 0 ? Math.max(best, v) : Math.min(best, v);
            }
        }
        return best;
    }

    int duel(int n) {
        if (!in(n, 0, 2)) {
            return BAD;
        }
        return start == null ? STATE : tells(play(now(), 2 * n));
    }

    /** The sum of chances times worth, by 12 to the number of GATES, gate by gate. */
    private BigInteger branch(Water w, int i, int stuck, int p, int b, int v) {
        if (i == w.gates()) {
            int level = w.turn(stuck).levels.get(b);
            return BigInteger.valueOf(v < 0 ? level : level >= v ? 1 : 0);
        }
        if (!w.isOpen(i)) {
            return branch(w, i + 1, stuck, p, b, v).multiply(BigInteger.valueOf(12));
        }
        BigInteger sticks = branch(w, i + 1, stuck | 1 << i, p, b, v).multiply(BigInteger.valueOf(p));
        return sticks.add(branch(w, i + 1, stuck, p, b, v).multiply(BigInteger.valueOf(12 - p)));
    }

    private int chance(int b, int v, int p) {
        return tellsPart(branch(now(), 0, 0, p, b, v), BigInteger.valueOf(12).pow(start.gates()));
    }

    int odds(int b, int v, int p) {
        if (start == null) {
            return STATE;
        }
        return isBasin(b) && in(v, 0, 60) && in(p, 0, 12) ? chance(b, v, p) : BAD;
    }

    int mid(int b, int p) {
        if (start == null) {
            return STATE;
        }
        return isBasin(b) && in(p, 0, 12) ? chance(b, -1, p) : BAD;
    }

    int lots(int n, int seed) {
        if (!in(n, 1, 20) || !in(seed, 1, 2147483646)) {
            return BAD;
        }
        if (start == null) {
            return STATE;
        }
        if (deeds.size() + n > 40) {
            return FULL;
        }
        BigInteger z = BigInteger.valueOf(seed);
        for (int k = 0; k < n; k++) {
            z = z.multiply(BigInteger.valueOf(48271)).mod(BigInteger.valueOf(2147483647));
            int i = z.mod(BigInteger.valueOf(start.gates())).intValue();
            int b = z.shiftRight(6).mod(BigInteger.valueOf(start.gates() + 1)).intValue();
            String[] which = {"turn", "turn", "turn", "turn", "wind " + i, "wind " + i, "water " + b + " 5", "water " + b + " -5"};
            deed(which[z.shiftRight(3).intValue() & 7]);
        }
        return now().levels.get(0);
    }

    int asked() {
        return asked;
    }

    long upper() {
        return upper.longValueExact();
    }

    long lower() {
        return lower.longValueExact();
    }

    int count(int what) {
        Water w = start == null ? new Water("", List.of(), List.of(), List.of(0), 0, 0) : now();
        int[] told = new int[11];
        told[0] = w.gates();
        told[1] = w.number;
        told[2] = deeds.size();
        for (int i = 0; i < w.gates(); i++) {
            told[3] += w.isOpen(i) ? 1 << i : 0;
            told[6] += "sl".indexOf(w.kinds.charAt(i)) >= 0 ? 1 : 0;
            told[7] += "pe".indexOf(w.kinds.charAt(i)) >= 0 ? 1 : 0;
        }
        for (int v : w.levels) {
            told[4] += v;
        }
        told[5] = w.spread();
        told[8] = there(rows);
        told[9] = there(texts);
        told[10] = there(kept);
        return in(what, 0, 10) ? told[what] : BAD;
    }

    private static int there(List<?> list) {
        int there = 0;
        for (Object one : list) {
            there += one == null ? 0 : 1;
        }
        return there;
    }

    int finding() {
        return finding;
    }

    int findings(int f) {
        return in(f, 1, 5) ? times[f] : BAD;
    }

    long digest() {
        List<Integer> all = new ArrayList<>();
        for (int what = 0; what <= 10; what++) {
            all.add(count(what));
        }
        int before = asked;
        if (start != null) {
            all.addAll(now().levels);
            for (int i = 0; i < start.gates(); i++) {
                for (int what = 0; what <= 3; what++) {
                    gate(i, what);
                    all.add(asked);
                }
            }
        }
        asked = before;
        for (Kept one : kept) {
            all.add(one == null ? -1 : one.deeds.size());
        }
        for (List<List<Integer>> lists : List.of(rows, texts)) {
            for (List<Integer> one : lists) {
                all.add(one == null ? -1 : one.size());
                all.addAll(one == null ? List.of() : one);
            }
        }
        long h = 17;
        for (int v : all) {
            h = 31 * h + v;
        }
        return h;
    }
}

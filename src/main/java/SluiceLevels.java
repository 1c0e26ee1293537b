public final class SluiceLevels {
    public static final int BAD = -1, FULL = -2, FINDING = -3, STATE = -4, SPENT = -6, NONE = -9;

    private static final int NOTHING = 1, BEYOND = 2, UNLIKE = 3, NOUGHT = 4, SIZE = 5;
    private static final int GATE = 0, SLUICE = 1, PUMP = 2, WEIR = 3, LOCK = 4, ENGINE = 5;
    private static final int[] LETTERS = {103, 115, 112, 119, 108, 101};
    private static final int[] KIND_ABOVE = {NONE, GATE, GATE, GATE, SLUICE, PUMP};

    private static final int FINE = 0;
    private static final int MISSING = -1;
    private static final int ROWS = 6, MOST_INTS = 40;
    private static final int TEXTS = 4, MOST_BYTES = 60, BLANK = 32, FIRST_LETTER = 104, FIGURE_NOUGHT = 48;
    private static final int MOST_GATES = 6, MOST_BASINS = 7, MOST_SETS = 64, MOST_WIDTH = 9;
    private static final int TOP = 60, LEVELS = 61;
    private static final int MOST_DEEDS = 40, KEPT = 3;
    private static final int MOST_SEEN = 10;
    private static final int TWELFTHS = 12;
    private static final long LOTS_FACTOR = 48271L, LOTS_MODULUS = 2147483647L;
    private static final int COUNTS = 11, GATE_FACTS = 4, FINDINGS = 5;

    /** A ROW of ints, or a TEXT of bytes. Its places are made once, so that no call makes any. */
    private static final class Row {
        final int[] places;
        int size = MISSING;

        Row(int most) {
            places = new int[most];
        }

        boolean isThere() {
            return size != MISSING;
        }

        boolean hasPlace(int i) {
            return i >= 0 && i < size;
        }

        boolean hasPlaces(int from, int n) {
            return from >= 0 && n >= 0 && from <= size - n;
        }

        void make(int n, int v) {
            for (int i = 0; i < n && i < places.length; i++) {
                places[i] = v;
            }
            size = n;
        }
    }

    /** How GATES and water stand at one time; what is looked at aside is done on another one of these. */
    private static final class Stand {
        final int[] kindOf = new int[MOST_GATES];
        final int[] widthOf = new int[MOST_GATES];
        final int[] levelOf = new int[MOST_BASINS];
        int gates;
        // Of a WEIR the bit stays as the TEXT told it: kinds() asks for it.
        int open;
        int number;

        void takeFrom(Stand other) {
            System.arraycopy(other.kindOf, 0, kindOf, 0, MOST_GATES);
            System.arraycopy(other.widthOf, 0, widthOf, 0, MOST_GATES);
            System.arraycopy(other.levelOf, 0, levelOf, 0, MOST_BASINS);
            gates = other.gates;
            open = other.open;
            number = other.number;
        }

        boolean hasGate(int i) {
            return i >= 0 && i < gates;
        }

        boolean hasBasin(int b) {
            return b >= 0 && b < basins();
        }

        boolean isWeir(int i) {
            return kindOf[i] == WEIR;
        }

        boolean isOpen(int i) {
            return isWeir(i) || hasBit(open, i);
        }

        int basins() {
            return gates > 0 ? gates + 1 : 0;
        }

        int allGates() {
            return (1 << gates) - 1;
        }

        int weirs() {
            int bits = 0;
            for (int i = 0; i < gates; i++) {
                if (isWeir(i)) {
                    bits |= 1 << i;
                }
            }
            return bits;
        }

        int openGates() {
            return open & allGates() | weirs();
        }

        int flowNow(int i) {
            return flowOf(kindOf[i], widthOf[i], levelOf[i], levelOf[i + 1], number);
        }

        int passTurn(int stuck) {
            int moved = 0;
            for (int i = 0; i < gates; i++) {
                int flow = isOpen(i) && !hasBit(stuck, i) ? flowNow(i) : 0;
                levelOf[i] -= flow;
                levelOf[i + 1] += flow;
                if (flow != 0) {
                    moved |= 1 << i;
                }
            }
            number++;
            return moved;
        }

        int passTurns(int n) {
            int moved = 0;
            for (int t = 0; t < n; t++) {
                moved = passTurn(0);
            }
            return moved;
        }

        void change(int b, int by) {
            levelOf[b] = Math.max(0, Math.min(TOP, levelOf[b] + by));
        }

        int sum() {
            int sum = 0;
            for (int b = 0; b < basins(); b++) {
                sum += levelOf[b];
            }
            return sum;
        }

        int spread() {
            int least = levelOf[0];
            int greatest = levelOf[0];
            for (int b = 0; b < basins(); b++) {
                least = Math.min(least, levelOf[b]);
                greatest = Math.max(greatest, levelOf[b]);
            }
            return greatest - least;
        }

        int howManyAre(int kind) {
            int found = 0;
            for (int i = 0; i < gates; i++) {
                if (isOfKind(kindOf[i], kind)) {
                    found++;
                }
            }
            return found;
        }
    }

    /** A BRIDGE with its DEEDS: how it stood ahead of each, so that a DEED is undone by going back there. */
    private static final class Bridge {
        final Stand now = new Stand();
        final int[] pastLevels = new int[MOST_DEEDS * MOST_BASINS];
        final int[] pastOpen = new int[MOST_DEEDS];
        final int[] pastNumbers = new int[MOST_DEEDS];
        int deeds;

        boolean isThere() {
            return now.gates > 0;
        }

        boolean isFull(int more) {
            return deeds + more > MOST_DEEDS;
        }

        void start(Stand stand) {
            now.takeFrom(stand);
            deeds = 0;
        }

        void takeFrom(Bridge other) {
            now.takeFrom(other.now);
            System.arraycopy(other.pastLevels, 0, pastLevels, 0, pastLevels.length);
            System.arraycopy(other.pastOpen, 0, pastOpen, 0, MOST_DEEDS);
            System.arraycopy(other.pastNumbers, 0, pastNumbers, 0, MOST_DEEDS);
            deeds = other.deeds;
        }

        void beginDeed() {
            if (isFull(1)) {
                return;
            }
            System.arraycopy(now.levelOf, 0, pastLevels, deeds * MOST_BASINS, MOST_BASINS);
            pastOpen[deeds] = now.open;
            pastNumbers[deeds] = now.number;
            deeds++;
        }

        void goBackTo(int n) {
            if (n < 0 || n >= deeds || n >= MOST_DEEDS) {
                return;
            }
            System.arraycopy(pastLevels, n * MOST_BASINS, now.levelOf, 0, MOST_BASINS);
            now.open = pastOpen[n];
            now.number = pastNumbers[n];
            deeds = n;
        }
    }

    /** Sets of GATES that were found to fit, in the order of their bits. */
    private static final class SetList {
        final int[] sets = new int[MOST_SETS];
        // Where the water stood with each set, so that next() need not try them again.
        final int[] levelsBehind = new int[MOST_SETS * MOST_BASINS];
        final int[] tally = new int[LEVELS];
        int size;

        void empty() {
            size = 0;
        }

        void add(int set) {
            if (size < MOST_SETS) {
                sets[size] = set;
                size++;
            }
        }

        void addWithLevels(int set, int[] levels) {
            if (size < MOST_SETS) {
                System.arraycopy(levels, 0, levelsBehind, size * MOST_BASINS, MOST_BASINS);
                add(set);
            }
        }

        int least() {
            return size == 0 ? NONE : sets[0];
        }

        int inEach(int among) {
            int bits = among;
            for (int k = 0; k < size; k++) {
                bits &= sets[k];
            }
            return bits;
        }

        int inNone(int among) {
            int bits = among;
            for (int k = 0; k < size; k++) {
                bits &= ~sets[k];
            }
            return bits;
        }

        int greatestPart(int b) {
            for (int v = 0; v < LEVELS; v++) {
                tally[v] = 0;
            }
            int greatest = 0;
            for (int k = 0; k < size; k++) {
                int v = levelsBehind[k * MOST_BASINS + b];
                if (isLevel(v)) {
                    tally[v]++;
                    greatest = Math.max(greatest, tally[v]);
                }
            }
            return greatest;
        }
    }

    /** The small language of BRIDGES. What stands behind a TEXT's end is no letter and no figure. */
    private static final class BridgeText {
        static int byteAt(Row text, int p) {
            return p >= 0 && p < text.size && p < MOST_BYTES ? text.places[p] : 0;
        }

        static int figureAt(Row text, int p) {
            int figure = byteAt(text, p) - FIGURE_NOUGHT;
            return figure >= 0 && figure <= 9 ? figure : NONE;
        }

        static int kindAt(Row text, int p) {
            int letter = byteAt(text, p);
            for (int kind = 0; kind < LETTERS.length; kind++) {
                if (LETTERS[kind] == letter) {
                    return kind;
                }
            }
            return NONE;
        }

        static int levelAt(Row text, int p) {
            return 10 * figureAt(text, p) + figureAt(text, p + 1);
        }

        static int behindBlanks(Row text, int from) {
            int p = from;
            while (p < text.size && byteAt(text, p) == BLANK) {
                p++;
            }
            return p;
        }

        static int levelFault(Row text, int p) {
            if (figureAt(text, p) == NONE) {
                return p;
            }
            if (figureAt(text, p + 1) == NONE) {
                return p + 1;
            }
            return levelAt(text, p) > TOP ? p : NONE;
        }

        static int gateFault(Row text, int p) {
            if (kindAt(text, p) == NONE) {
                return p;
            }
            if (figureAt(text, p + 1) < 1) {
                return p + 1;
            }
            int open = figureAt(text, p + 2);
            return open == 0 || open == 1 ? levelFault(text, p + 3) : p + 2;
        }

        static void takeGate(Row text, int p, int i, Stand stand) {
            stand.kindOf[i] = kindAt(text, p);
            stand.widthOf[i] = figureAt(text, p + 1);
            stand.open |= figureAt(text, p + 2) << i;
            stand.levelOf[i + 1] = levelAt(text, p + 3);
            stand.gates = i + 1;
        }

        /** Answers the FAULT, or NONE: then the stand is the BRIDGE's. */
        static int read(Row text, Stand stand) {
            int p = behindBlanks(text, 0);
            if (byteAt(text, p) != FIRST_LETTER) {
                return p;
            }
            int fault = levelFault(text, p + 1);
            if (fault != NONE) {
                return fault;
            }
            stand.gates = 0;
            stand.open = 0;
            stand.number = 0;
            stand.levelOf[0] = levelAt(text, p + 1);
            return readGates(text, behindBlanks(text, p + 3), stand);
        }

        static int readGates(Row text, int from, Stand stand) {
            int p = from;
            for (int i = 0; i < MOST_GATES && p < text.size; i++) {
                int fault = gateFault(text, p);
                if (fault != NONE) {
                    return fault;
                }
                takeGate(text, p, i, stand);
                p = behindBlanks(text, p + 5);
            }
            return p < text.size || stand.gates == 0 ? p : NONE;
        }
    }

    private final Row[] rows = new Row[ROWS];
    private final Row[] texts = new Row[TEXTS];
    private final Bridge bridge = new Bridge();
    private final Bridge[] kept = new Bridge[KEPT];
    private final Stand aside = new Stand();
    private final SetList found = new SetList();
    private final int[] outcomes = new int[MOST_SETS];
    private final int[] outcomesAhead = new int[MOST_SETS];
    private final int[] timesFound = new int[FINDINGS + 1];
    private int latestFinding;
    private int told;
    private long upperTold;
    private long lowerTold = 1L;

    public SluiceLevels() {
        for (int r = 0; r < ROWS; r++) {
            rows[r] = new Row(MOST_INTS);
        }
        for (int t = 0; t < TEXTS; t++) {
            texts[t] = new Row(MOST_BYTES);
        }
        for (int k = 0; k < KEPT; k++) {
            kept[k] = new Bridge();
        }
    }

    // ---- 1 rows, texts, bridges

    public int row(int r, int n) {
        return isRow(r) ? makeRow(rows[r], n, 0) : BAD;
    }

    public int lay(int r, int i, int v) {
        if (!isRow(r)) {
            return BAD;
        }
        int refusal = refusalOfPlace(rows[r], i);
        if (refusal != FINE) {
            return refusal;
        }
        tell(rows[r].places[i]);
        rows[r].places[i] = v;
        return 1;
    }

    public int at(int r, int i) {
        if (!isRow(r)) {
            return BAD;
        }
        int refusal = refusalOfPlace(rows[r], i);
        return refusal != FINE ? refusal : tell(rows[r].places[i]);
    }

    public int tear(int r) {
        if (!isRow(r)) {
            return BAD;
        }
        if (!rows[r].isThere()) {
            return refuse(NOTHING);
        }
        rows[r].size = MISSING;
        return 1;
    }

    public int copy(int r, int i, int to, int j, int n) {
        if (!isRow(r) || !isRow(to)) {
            return BAD;
        }
        if (n < 0) {
            return refuse(SIZE);
        }
        if (!rows[r].isThere() || !rows[to].isThere()) {
            return refuse(NOTHING);
        }
        if (!rows[r].hasPlaces(i, n) || !rows[to].hasPlaces(j, n)) {
            return refuse(BEYOND);
        }
        System.arraycopy(rows[r].places, i, rows[to].places, j, n);
        return 1;
    }

    public int mean(int r) {
        if (!isRow(r)) {
            return BAD;
        }
        if (!rows[r].isThere()) {
            return refuse(NOTHING);
        }
        int size = rows[r].size;
        if (size <= 0) {
            return refuse(NOUGHT);
        }
        // Forty ints may come to more than an int holds.
        long sum = 0L;
        for (int i = 0; i < size; i++) {
            sum += rows[r].places[i];
        }
        return tell((int) (sum / size));
    }

    public int text(int t, int n) {
        return isText(t) ? makeRow(texts[t], n, BLANK) : BAD;
    }

    public int put(int t, int i, int v) {
        if (!isText(t)) {
            return BAD;
        }
        int refusal = refusalOfPlace(texts[t], i);
        if (refusal != FINE) {
            return refusal;
        }
        int was = texts[t].places[i];
        texts[t].places[i] = (byte) v;
        return was + 1000;
    }

    public int fault(int t) {
        if (!isText(t)) {
            return BAD;
        }
        return texts[t].isThere() ? BridgeText.read(texts[t], aside) : refuse(NOTHING);
    }

    public int bridge(int t) {
        if (!isText(t)) {
            return BAD;
        }
        if (!texts[t].isThere()) {
            return refuse(NOTHING);
        }
        if (BridgeText.read(texts[t], aside) != NONE) {
            return STATE;
        }
        bridge.start(aside);
        for (int k = 0; k < KEPT; k++) {
            kept[k].now.gates = 0;
        }
        return bridge.now.gates;
    }

    public int basin(int b) {
        if (!bridge.isThere()) {
            return STATE;
        }
        return bridge.now.hasBasin(b) ? tell(bridge.now.levelOf[b]) : BAD;
    }

    public int gate(int i, int what) {
        if (!bridge.now.hasGate(i) || what < 0 || what >= GATE_FACTS) {
            return BAD;
        }
        return tell(gateFact(i, what));
    }

    public int mark(int i, int kind) {
        if (!bridge.now.hasGate(i) || kind <= GATE || kind > ENGINE) {
            return BAD;
        }
        return isOfKind(bridge.now.kindOf[i], kind) ? markOf(i, kind) : refuse(UNLIKE);
    }

    // ---- 2 deeds

    public int turn() {
        if (!bridge.isThere()) {
            return STATE;
        }
        if (bridge.isFull(1)) {
            return FULL;
        }
        bridge.beginDeed();
        return bridge.now.passTurn(0);
    }

    public int wind(int i) {
        if (!bridge.now.hasGate(i)) {
            return BAD;
        }
        if (bridge.now.isWeir(i)) {
            return STATE;
        }
        if (bridge.isFull(1)) {
            return FULL;
        }
        bridge.beginDeed();
        bridge.now.open ^= 1 << i;
        return bridge.now.isOpen(i) ? 1 : 0;
    }

    public int rain(int b, int n) {
        return changeLevel(b, n, n, TOP);
    }

    public int draw(int b, int n) {
        return changeLevel(b, n, -n, 0);
    }

    public int undo(int n) {
        if (n < 0 || n > bridge.deeds) {
            return BAD;
        }
        int undone = bridge.deeds - n;
        bridge.goBackTo(n);
        return undone;
    }

    public int keep(int k) {
        if (!isKeptPlace(k)) {
            return BAD;
        }
        if (!bridge.isThere()) {
            return STATE;
        }
        kept[k].takeFrom(bridge);
        return bridge.deeds;
    }

    public int on(int k) {
        if (!isKeptPlace(k)) {
            return BAD;
        }
        if (!kept[k].isThere()) {
            return refuse(NOTHING);
        }
        bridge.takeFrom(kept[k]);
        return bridge.deeds;
    }

    // ---- 3 what comes

    public int flows(int i, int ahead, int behind, int number) {
        boolean asTold = isLevel(ahead) && isLevel(behind) && number >= 0 && number <= 99;
        if (!bridge.now.hasGate(i) || !asTold) {
            return BAD;
        }
        return flowOf(bridge.now.kindOf[i], bridge.now.widthOf[i], ahead, behind, number);
    }

    public int level(int b, int n) {
        if (!bridge.isThere()) {
            return STATE;
        }
        if (!bridge.now.hasBasin(b) || n < 0 || n > 40) {
            return BAD;
        }
        aside.takeFrom(bridge.now);
        tell(aside.passTurns(n));
        return aside.levelOf[b];
    }

    public int stops() {
        if (!bridge.isThere()) {
            return STATE;
        }
        aside.takeFrom(bridge.now);
        int calm = 0;
        for (int passed = 1; passed <= 40 + 6; passed++) {
            calm = aside.passTurn(0) == 0 ? calm + 1 : 0;
            if (calm == 6) {
                return passed - 6;
            }
        }
        return NONE;
    }

    // ---- 4 which gates

    public int high(int b, int v, int n) {
        if (!bridge.isThere()) {
            return STATE;
        }
        if (!bridge.now.hasBasin(b) || !isLevel(v) || n < 1 || n > 20) {
            return BAD;
        }
        int weirs = bridge.now.weirs();
        int fewest = NONE;
        int least = NONE;
        for (int set = 0; set <= bridge.now.allGates(); set++) {
            int wound = Integer.bitCount(set);
            boolean wanted = (set & weirs) == 0 && (fewest == NONE || wound < fewest);
            if (wanted && standsAside(bridge.now.open ^ set, b, n) >= v) {
                fewest = wound;
                least = set;
            }
        }
        if (fewest != NONE) {
            tell(least);
        }
        return fewest;
    }

    public int even(int n) {
        if (!bridge.isThere()) {
            return STATE;
        }
        if (n < 1 || n > 20) {
            return BAD;
        }
        int weirs = bridge.now.weirs();
        int best = 0;
        int bestSpread = LEVELS;
        for (int set = 0; set <= bridge.now.allGates(); set++) {
            if ((set & weirs) != 0) {
                continue;
            }
            standsAside(set, 0, n);
            if (aside.spread() < bestSpread) {
                bestSpread = aside.spread();
                best = set;
            }
        }
        tell(bestSpread);
        return best;
    }

    // ---- 5 by how one stood

    public int opens(int b, int r) {
        int refusal = refusalOfSeen(true, b, r);
        if (refusal != FINE) {
            return refusal;
        }
        findSetsBySeen(b, rows[r]);
        tellPart(found.size, 1L);
        return tell(found.least());
    }

    public int sure(int b, int r) {
        int refusal = refusalOfSeen(true, b, r);
        if (refusal != FINE) {
            return refusal;
        }
        findSetsBySeen(b, rows[r]);
        int windable = bridge.now.allGates() & ~bridge.now.weirs();
        tell(found.inNone(windable));
        return found.inEach(windable);
    }

    public int next(int b, int r) {
        int refusal = refusalOfSeen(true, b, r);
        if (refusal != FINE) {
            return refusal;
        }
        findSetsBySeen(b, rows[r]);
        if (found.size == 0) {
            return NONE;
        }
        int best = NONE;
        int bestPart = MOST_SETS + 1;
        for (int seen = 0; seen < bridge.now.basins(); seen++) {
            int part = found.greatestPart(seen);
            if (part < bestPart) {
                bestPart = part;
                best = seen;
            }
        }
        tell(bestPart);
        return best;
    }

    public int widths(int i, int b, int r) {
        int refusal = refusalOfSeen(bridge.now.hasGate(i), b, r);
        if (refusal != FINE) {
            return refusal;
        }
        int bits = 0;
        for (int width = 1; width <= MOST_WIDTH; width++) {
            aside.takeFrom(bridge.now);
            aside.widthOf[i] = width;
            if (asideStandsAs(b, rows[r])) {
                bits |= 1 << width;
            }
        }
        return bits;
    }

    public int kinds(int i, int b, int r) {
        int refusal = refusalOfSeen(bridge.now.hasGate(i), b, r);
        if (refusal != FINE) {
            return refusal;
        }
        int bits = 0;
        for (int kind = GATE; kind <= ENGINE; kind++) {
            aside.takeFrom(bridge.now);
            aside.kindOf[i] = kind;
            if (asideStandsAs(b, rows[r])) {
                bits |= 1 << kind;
            }
        }
        return bits;
    }

    // ---- 6 whose widths

    public int sets(int v) {
        int refusal = refusalOfWidths(v);
        if (refusal != FINE) {
            return refusal;
        }
        findSetsByWidths(v);
        tellPart(found.size, 1L);
        return tell(found.least());
    }

    public int surely(int v) {
        int refusal = refusalOfWidths(v);
        if (refusal != FINE) {
            return refusal;
        }
        findSetsByWidths(v);
        if (found.size == 0) {
            return refuse(NOUGHT);
        }
        int all = bridge.now.allGates();
        tell(found.inNone(all));
        return found.inEach(all);
    }

    // ---- 7 by turns

    public int duel(int n) {
        if (n < 0 || n > 2) {
            return BAD;
        }
        if (!bridge.isThere()) {
            return STATE;
        }
        int last = bridge.now.gates;
        for (int open = 0; open <= bridge.now.allGates(); open++) {
            int first = standsAside(open, 0, 3);
            outcomes[open] = first - aside.levelOf[last];
        }
        // From the end on: the second one winds last.
        for (int round = 0; round < n; round++) {
            chooseAhead(false);
            chooseAhead(true);
        }
        return tell(outcomes[bridge.now.open & bridge.now.allGates()]);
    }

    // ---- 8 chances, lots

    public int odds(int b, int v, int p) {
        if (!bridge.isThere()) {
            return STATE;
        }
        if (!bridge.now.hasBasin(b) || !isLevel(v) || !isTwelfths(p)) {
            return BAD;
        }
        long upper = 0L;
        for (int stuck = 0; stuck <= bridge.now.allGates(); stuck++) {
            long chance = chanceOf(stuck, p);
            if (chance != 0L && standsStuck(b, stuck) >= v) {
                upper += chance;
            }
        }
        tellPart(upper, allChances());
        return 1;
    }

    public int mid(int b, int p) {
        if (!bridge.isThere()) {
            return STATE;
        }
        if (!bridge.now.hasBasin(b) || !isTwelfths(p)) {
            return BAD;
        }
        long upper = 0L;
        for (int stuck = 0; stuck <= bridge.now.allGates(); stuck++) {
            long chance = chanceOf(stuck, p);
            if (chance != 0L) {
                upper += chance * standsStuck(b, stuck);
            }
        }
        tellPart(upper, allChances());
        return 1;
    }

    public int lots(int n, int seed) {
        if (n < 1 || n > 20 || seed < 1 || seed >= LOTS_MODULUS) {
            return BAD;
        }
        if (!bridge.isThere()) {
            return STATE;
        }
        if (bridge.isFull(n)) {
            return FULL;
        }
        long lot = seed;
        for (int k = 0; k < n; k++) {
            lot = LOTS_FACTOR * lot % LOTS_MODULUS;
            doByLot(lot);
        }
        return bridge.now.levelOf[0];
    }

    // ---- 9 what is told

    public int asked() {
        return told;
    }

    public long upper() {
        return upperTold;
    }

    public long lower() {
        return lowerTold;
    }

    public int count(int what) {
        switch (what) {
            case 0: return bridge.now.gates;
            case 1: return bridge.now.number;
            case 2: return bridge.deeds;
            case 3: return bridge.now.openGates();
            case 4: return bridge.now.sum();
            case 5: return bridge.now.spread();
            case 6: return bridge.now.howManyAre(SLUICE);
            case 7: return bridge.now.howManyAre(PUMP);
            case 8: return howManyThere(rows);
            case 9: return howManyThere(texts);
            case 10: return howManyKept();
            default: return BAD;
        }
    }

    public int finding() {
        return latestFinding;
    }

    public int findings(int f) {
        return f >= 1 && f <= FINDINGS ? timesFound[f] : BAD;
    }

    public long digest() {
        long h = 17L;
        for (int what = 0; what < COUNTS; what++) {
            h = 31L * h + count(what);
        }
        h = digestBridge(h);
        for (int k = 0; k < KEPT; k++) {
            h = 31L * h + (kept[k].isThere() ? kept[k].deeds : MISSING);
        }
        return digestRows(digestRows(h, rows), texts);
    }

    // ---- what water does

    private static int flowOf(int kind, int width, int ahead, int behind, int number) {
        int levelled = levelling(ahead - behind, width);
        switch (kind) {
            case GATE: return levelled;
            case SLUICE: return Math.max(0, levelled);
            case PUMP: return -lifting(width, ahead, behind);
            case WEIR: return levelling(overWeir(ahead - behind), width);
            case LOCK: return isShutLock(number) ? 0 : Math.max(0, levelled);
            case ENGINE: return -lifting(turnsUntilTwice(number) == 0 ? 2 * width : width, ahead, behind);
            default: return 0;
        }
    }

    // Halves never pass what there is, or the room: only lifting has to look at both.
    private static int levelling(int difference, int width) {
        return Math.max(-width, Math.min(width, difference / 2));
    }

    private static int lifting(int wanted, int ahead, int behind) {
        return Math.min(wanted, Math.min(behind, TOP - ahead));
    }

    private static int overWeir(int difference) {
        return difference > 0 ? Math.max(0, difference - 5) : Math.min(0, difference + 5);
    }

    private static boolean isShutLock(int number) {
        return number % 2 != 0;
    }

    private static int turnsUntilTwice(int number) {
        return (3 - number % 3) % 3;
    }

    private static boolean isOfKind(int kind, int wanted) {
        if (kind < GATE || kind > ENGINE) {
            return false;
        }
        return kind == wanted || KIND_ABOVE[kind] == wanted;
    }

    private static boolean hasBit(int bits, int i) {
        return (bits >> i & 1) == 1;
    }

    private int gateFact(int i, int what) {
        Stand now = bridge.now;
        switch (what) {
            case 0: return now.kindOf[i];
            case 1: return now.widthOf[i];
            case 2: return now.isOpen(i) ? 1 : 0;
            default: return now.isOpen(i) ? now.flowNow(i) : 0;
        }
    }

    private int markOf(int i, int kind) {
        Stand now = bridge.now;
        int difference = now.levelOf[i] - now.levelOf[i + 1];
        switch (kind) {
            case SLUICE: return Math.abs(levelling(difference, now.widthOf[i])) - now.flowNow(i);
            case PUMP: return TOP - now.levelOf[i];
            case WEIR: return Math.abs(difference);
            case LOCK: return isShutLock(now.number) ? 0 : 1;
            default: return turnsUntilTwice(now.number);
        }
    }

    private int changeLevel(int b, int n, int by, int end) {
        if (!bridge.isThere()) {
            return STATE;
        }
        if (!bridge.now.hasBasin(b) || n < 1 || n > 9) {
            return BAD;
        }
        if (bridge.now.levelOf[b] == end) {
            return STATE;
        }
        if (bridge.isFull(1)) {
            return FULL;
        }
        bridge.beginDeed();
        bridge.now.change(b, by);
        return bridge.now.levelOf[b];
    }

    private void doByLot(long lot) {
        int gates = bridge.now.gates;
        if (gates <= 0) {
            return;
        }
        bridge.beginDeed();
        int which = (int) (lot / 8L % 8L);
        int i = (int) (lot % gates);
        int b = (int) (lot / 64L % (gates + 1));
        if (which <= 3) {
            bridge.now.passTurn(0);
        } else if (which >= 6) {
            bridge.now.change(b, which == 6 ? 5 : -5);
        } else if (!bridge.now.isWeir(i)) {
            bridge.now.open ^= 1 << i;
        }
    }

    // ---- what is tried aside

    private int standsAside(int open, int b, int n) {
        aside.takeFrom(bridge.now);
        aside.open = open;
        aside.passTurns(n);
        return aside.levelOf[b];
    }

    private int standsStuck(int b, int stuck) {
        aside.takeFrom(bridge.now);
        aside.passTurn(stuck);
        return aside.levelOf[b];
    }

    private boolean asideStandsAs(int b, Row seen) {
        for (int t = 0; t < seen.size; t++) {
            aside.passTurn(0);
            if (aside.levelOf[b] != seen.places[t]) {
                return false;
            }
        }
        return true;
    }

    private void findSetsBySeen(int b, Row seen) {
        int weirs = bridge.now.weirs();
        found.empty();
        for (int set = 0; set <= bridge.now.allGates(); set++) {
            if ((set & weirs) != 0) {
                continue;
            }
            aside.takeFrom(bridge.now);
            aside.open = set;
            if (asideStandsAs(b, seen)) {
                found.addWithLevels(set, aside.levelOf);
            }
        }
    }

    private void findSetsByWidths(int v) {
        found.empty();
        for (int set = 0; set <= bridge.now.allGates(); set++) {
            if (widthTogether(set) == v) {
                found.add(set);
            }
        }
    }

    private int widthTogether(int set) {
        int sum = 0;
        for (int i = 0; i < bridge.now.gates; i++) {
            if (hasBit(set, i)) {
                sum += bridge.now.widthOf[i];
            }
        }
        return sum;
    }

    private void chooseAhead(boolean wantsMuch) {
        int all = bridge.now.allGates();
        System.arraycopy(outcomes, 0, outcomesAhead, 0, MOST_SETS);
        for (int open = 0; open <= all; open++) {
            for (int i = 0; i < bridge.now.gates; i++) {
                int other = outcomesAhead[open ^ 1 << i];
                boolean better = wantsMuch ? other > outcomes[open] : other < outcomes[open];
                if (better && !bridge.now.isWeir(i)) {
                    outcomes[open] = other;
                }
            }
        }
    }

    /** Of all the ways of allChances(), how many let just these stick; none if one of these is shut. */
    private long chanceOf(int stuck, int p) {
        int open = bridge.now.openGates();
        if ((stuck & ~open) != 0) {
            return 0L;
        }
        long chance = 1L;
        for (int i = 0; i < bridge.now.gates; i++) {
            if (hasBit(open, i)) {
                chance *= hasBit(stuck, i) ? p : TWELFTHS - p;
            }
        }
        return chance;
    }

    private long allChances() {
        long all = 1L;
        for (int i = 0; i < bridge.now.gates; i++) {
            if (bridge.now.isOpen(i)) {
                all *= TWELFTHS;
            }
        }
        return all;
    }

    // ---- what is there, what is refused, what is told

    private static boolean isRow(int r) {
        return r >= 0 && r < ROWS;
    }

    private static boolean isText(int t) {
        return t >= 0 && t < TEXTS;
    }

    private static boolean isKeptPlace(int k) {
        return k >= 0 && k < KEPT;
    }

    private static boolean isLevel(int v) {
        return v >= 0 && v <= TOP;
    }

    private static boolean isTwelfths(int p) {
        return p >= 0 && p <= TWELFTHS;
    }

    private int makeRow(Row row, int n, int v) {
        if (n > row.places.length) {
            return BAD;
        }
        if (n < 0) {
            return refuse(SIZE);
        }
        row.make(n, v);
        return n;
    }

    private int refusalOfPlace(Row row, int i) {
        if (!row.isThere()) {
            return refuse(NOTHING);
        }
        return row.hasPlace(i) ? FINE : refuse(BEYOND);
    }

    private int refusalOfSeen(boolean gateFits, int b, int r) {
        if (!bridge.isThere()) {
            return STATE;
        }
        if (!gateFits || !bridge.now.hasBasin(b) || !isRow(r)) {
            return BAD;
        }
        Row seen = rows[r];
        if (!seen.isThere()) {
            return refuse(NOTHING);
        }
        if (seen.size < 1 || seen.size > MOST_SEEN) {
            return refuse(SIZE);
        }
        for (int t = 0; t < seen.size; t++) {
            if (!isLevel(seen.places[t])) {
                return refuse(UNLIKE);
            }
        }
        return FINE;
    }

    private int refusalOfWidths(int v) {
        if (v < 0 || v > MOST_GATES * MOST_WIDTH) {
            return BAD;
        }
        return bridge.isThere() ? FINE : STATE;
    }

    private int refuse(int finding) {
        if (finding >= 1 && finding <= FINDINGS) {
            latestFinding = finding;
            timesFound[finding]++;
        }
        return FINDING;
    }

    private int tell(int v) {
        told = v;
        return 1;
    }

    private void tellPart(long upper, long lower) {
        long shared = commonDivisor(upper, lower);
        if (shared > 0L) {
            upperTold = upper / shared;
            lowerTold = lower / shared;
        }
    }

    private static long commonDivisor(long first, long second) {
        long a = first;
        long b = second;
        for (int step = 0; step < 1000 && b != 0L; step++) {
            long rest = a % b;
            a = b;
            b = rest;
        }
        return a;
    }

    private static int howManyThere(Row[] list) {
        int there = 0;
        for (Row row : list) {
            if (row.isThere()) {
                there++;
            }
        }
        return there;
    }

    private int howManyKept() {
        int there = 0;
        for (Bridge one : kept) {
            if (one.isThere()) {
                there++;
            }
        }
        return there;
    }

    private long digestBridge(long from) {
        long h = from;
        for (int b = 0; b < bridge.now.basins(); b++) {
            h = 31L * h + bridge.now.levelOf[b];
        }
        for (int i = 0; i < bridge.now.gates; i++) {
            for (int what = 0; what < GATE_FACTS; what++) {
                h = 31L * h + gateFact(i, what);
            }
        }
        return h;
    }

    private static long digestRows(long from, Row[] list) {
        long h = from;
        for (Row row : list) {
            h = 31L * h + row.size;
            for (int i = 0; i < row.size; i++) {
                h = 31L * h + row.places[i];
            }
        }
        return h;
    }
}

import java.util.Arrays;

/**
 * Four machines that read one row of labels and write another one on paths with weights, a text
 * that machines are printed to and parsed from, and the best path that was looked for last.
 */
public final class WeighedMachines {
    public static final int NONE = -1;
    public static final int FULL = -2;
    public static final int UNFIT = -3;
    public static final int SYNTAX = -4;
    public static final int RANGE = -5;
    public static final int TWICE = -6;

    private static final int SLOTS = 4;
    private static final int MOST_STATES = 16;
    private static final int MOST_ARCS = 64;
    private static final long MOST_WEIGHT = 1000000000L;
    private static final int MOST_LABEL = 7;
    private static final int LABEL_PAIRS = 64;
    private static final int MOST_ROW = 8;
    private static final int MOST_LETTERS = 1600;
    private static final int MOST_DIGITS = 10;
    private static final int MOST_FED = 8;
    private static final int FINE = 0;

    /** Stands for no way at all: above every sum of weights, and twice it is still a long. */
    private static final long FAR = 1L << 60;

    private final Machine[] slots;
    private final Composing composing;
    private final Baring baring;
    private final Determining determining;
    private final Onward onward;
    private final Weighing weighing;
    private final BestPath bestPath;
    private final Text text;
    private final Parsing parsing;

    /** Where calls build, so that a refused one leaves its slot as it was. */
    private Machine made;

    public WeighedMachines() {
        slots = new Machine[SLOTS];
        for (int i = 0; i < SLOTS; i++) {
            slots[i] = new Machine();
        }
        made = new Machine();
        composing = new Composing();
        baring = new Baring();
        determining = new Determining();
        onward = new Onward();
        weighing = new Weighing();
        bestPath = new BestPath();
        text = new Text();
        parsing = new Parsing();
    }

    public boolean fresh(int slot, int n) {
        if (!isSlot(slot) || n < 0 || n > MOST_STATES) {
            return false;
        }
        slots[slot].clear(n);
        return true;
    }

    public boolean start(int slot, int q, int w) {
        if (!isState(slot, q) || !isWeight(w)) {
            return false;
        }
        slots[slot].setStart(q, w);
        return true;
    }

    public boolean end(int slot, int q, int w) {
        if (!isState(slot, q) || w != NONE && !isWeight(w)) {
            return false;
        }
        slots[slot].endWeights[q] = w;
        return true;
    }

    public int arc(int slot, int from, int to, int labels, int w) {
        if (!isState(slot, from) || !isState(slot, to) || !isWeight(w)) {
            return NONE;
        }
        if (labels < 0 || labels >= LABEL_PAIRS) {
            return NONE;
        }
        Machine machine = slots[slot];
        return machine.bring(keyOf(from, labels, to), w) ? machine.arcs : FULL;
    }

    public int compose(int a, int b, int c) {
        if (!isSlot(a) || !isSlot(b) || !isSlot(c)) {
            return NONE;
        }
        boolean room = composing.build(slots[a], slots[b], made);
        return take(room, c) ? slots[c].states : FULL;
    }

    public int bare(int a, int c) {
        if (!isSlot(a) || !isSlot(c)) {
            return NONE;
        }
        boolean room = baring.build(slots[a], made);
        return take(room, c) ? slots[c].arcs : FULL;
    }

    public int determine(int a, int c) {
        if (!isSlot(a) || !isSlot(c)) {
            return NONE;
        }
        if (!slots[a].copiesLabels() || slots[a].hasCycle()) {
            return UNFIT;
        }
        boolean room = determining.build(slots[a], made);
        return take(room, c) ? slots[c].states : FULL;
    }

    public int push(int a, int c) {
        if (!isSlot(a) || !isSlot(c)) {
            return NONE;
        }
        onward.look(slots[a]);
        buildPushed(slots[a]);
        return take(true, c) ? slots[c].arcs : FULL;
    }

    public int trim(int a, int c) {
        if (!isSlot(a) || !isSlot(c)) {
            return NONE;
        }
        buildTrimmed(slots[a]);
        return take(true, c) ? slots[c].states : FULL;
    }

    public long weigh(int slot, int x, int y) {
        if (!isSlot(slot)) {
            return NONE;
        }
        return weighing.leastWeight(slots[slot], x, y);
    }

    public long best(int slot) {
        if (!isSlot(slot)) {
            return NONE;
        }
        Machine machine = slots[slot];
        onward.look(machine);
        if (machine.startState == NONE || !onward.isThere(machine.startState)) {
            return NONE;
        }
        bestPath.keep(machine, onward);
        return machine.startWeight + onward.weightOf(machine.startState);
    }

    public int step(int k, int what) {
        if (k < 0 || k >= bestPath.length) {
            return NONE;
        }
        return arcPart(bestPath.keys[k], bestPath.weights[k], what);
    }

    public int count(int slot, int what) {
        if (!isSlot(slot)) {
            return NONE;
        }
        Machine machine = slots[slot];
        switch (what) {
            case 0:
                return machine.states;
            case 1:
                return machine.arcs;
            case 2:
                return machine.countEnds();
            case 3:
                return machine.startState;
            case 4:
                return machine.startState == NONE ? NONE : (int) machine.startWeight;
            default:
                return NONE;
        }
    }

    public int part(int slot, int k, int what) {
        if (!isSlot(slot) || k < 0 || k >= slots[slot].arcs) {
            return NONE;
        }
        return arcPart(slots[slot].keys[k], slots[slot].weights[k], what);
    }

    public int endOf(int slot, int q) {
        return isState(slot, q) ? (int) slots[slot].endWeights[q] : NONE;
    }

    public int print(int slot) {
        if (!isSlot(slot)) {
            return NONE;
        }
        text.tell(slots[slot]);
        return text.length;
    }

    public int parse(int slot) {
        if (!isSlot(slot)) {
            return NONE;
        }
        int fault = parsing.build(text, made);
        if (fault != FINE) {
            return fault;
        }
        return take(true, slot) ? slots[slot].arcs : FULL;
    }

    public int feed(long characters, int n) {
        if (n == 0) {
            text.length = 0;
            return 0;
        }
        if (n < 0 || n > MOST_FED || text.length + n > MOST_LETTERS || !areLetters(characters, n)) {
            return NONE;
        }
        for (int shift = 8 * (n - 1); shift >= 0; shift -= 8) {
            text.put((int) (characters >> shift & 255));
        }
        return text.length;
    }

    public int letter(int i) {
        return text.codeAt(i);
    }

    private static boolean isSlot(int slot) {
        return slot >= 0 && slot < SLOTS;
    }

    private boolean isState(int slot, int q) {
        return isSlot(slot) && q >= 0 && q < slots[slot].states;
    }

    private static boolean isWeight(long w) {
        return w >= 0 && w <= MOST_WEIGHT;
    }

    private static boolean areLetters(long characters, int n) {
        for (int i = 0; i < n; i++) {
            long code = characters >> 8 * i & 255;
            if (code < 32 || code > 126) {
                return false;
            }
        }
        return true;
    }

    /** The built machine changes places with the slot's one, which is built over next time. */
    private boolean take(boolean room, int slot) {
        if (!room || !made.weightsFit()) {
            return false;
        }
        Machine old = slots[slot];
        slots[slot] = made;
        made = old;
        return true;
    }

    private void buildPushed(Machine a) {
        made.clear(a.states);
        for (int q = 0; q < a.states; q++) {
            if (a.endWeights[q] != NONE) {
                made.endWeights[q] = a.endWeights[q] - onward.weightOf(q);
            }
        }
        if (a.startState != NONE) {
            boolean there = onward.isThere(a.startState);
            long more = there ? onward.weightOf(a.startState) : 0;
            made.setStart(a.startState, a.startWeight + more);
        }
        for (int i = 0; i < a.arcs; i++) {
            int from = fromOf(a.keys[i]);
            int to = toOf(a.keys[i]);
            if (onward.isThere(from) && onward.isThere(to)) {
                made.bring(a.keys[i], a.weights[i] + onward.weightOf(to) - onward.weightOf(from));
            }
        }
    }

    private void buildTrimmed(Machine a) {
        int kept = a.statesAhead() & a.statesBehind();
        made.clear(Integer.bitCount(kept));
        for (int q = 0; q < a.states; q++) {
            if (isIn(kept, q)) {
                made.endWeights[rankIn(kept, q)] = a.endWeights[q];
            }
        }
        // Every path has the start on it: no state is kept without it.
        if (kept != 0) {
            made.setStart(rankIn(kept, a.startState), a.startWeight);
        }
        for (int i = 0; i < a.arcs; i++) {
            int from = fromOf(a.keys[i]);
            int to = toOf(a.keys[i]);
            if (isIn(kept, from) && isIn(kept, to)) {
                int labels = labelsOf(a.keys[i]);
                made.bring(keyOf(rankIn(kept, from), labels, rankIn(kept, to)), a.weights[i]);
            }
        }
    }

    private static boolean isIn(int set, int q) {
        return (set >> q & 1) != 0;
    }

    private static int rankIn(int set, int q) {
        return Integer.bitCount(set & (1 << q) - 1);
    }

    private static int labelPair(int in, int out) {
        return 8 * in + out;
    }

    /**
     * From, in, out and to in one number, so that the order of the arcs is that of numbers. It is
     * a sum, so that one above the last state or label tells where the arcs of the last one stop.
     */
    private static int keyOf(int from, int labels, int to) {
        return (from << 10) + (labels << 4) + to;
    }

    private static int fromOf(int key) {
        return key >> 10;
    }

    private static int labelsOf(int key) {
        return key >> 4 & 63;
    }

    private static int inOf(int key) {
        return key >> 7 & 7;
    }

    private static int outOf(int key) {
        return key >> 4 & 7;
    }

    private static int toOf(int key) {
        return key & 15;
    }

    private static int arcPart(int key, long weight, int what) {
        switch (what) {
            case 0:
                return fromOf(key);
            case 1:
                return toOf(key);
            case 2:
                return inOf(key);
            case 3:
                return outOf(key);
            case 4:
                return (int) weight;
            default:
                return NONE;
        }
    }

    /** Weights are longs because those of a machine that is being built may be too large. */
    private static final class Machine {
        int states;
        int startState;
        long startWeight;
        final long[] endWeights;
        int arcs;
        final int[] keys;
        final long[] weights;

        Machine() {
            startState = NONE;
            endWeights = new long[MOST_STATES];
            Arrays.fill(endWeights, NONE);
            keys = new int[MOST_ARCS];
            weights = new long[MOST_ARCS];
        }

        void clear(int n) {
            states = n;
            startState = NONE;
            startWeight = 0;
            Arrays.fill(endWeights, NONE);
            arcs = 0;
        }

        void setStart(int q, long weight) {
            startState = q;
            startWeight = weight;
        }

        void setEndUnlessFar(int q, long weight) {
            endWeights[q] = weight < FAR ? weight : NONE;
        }

        long endOrFar(int q) {
            return endWeights[q] == NONE ? FAR : endWeights[q];
        }

        int countEnds() {
            int ends = 0;
            for (int q = 0; q < states; q++) {
                if (endWeights[q] != NONE) {
                    ends++;
                }
            }
            return ends;
        }

        /** How many arcs have a lesser key: where the key stands, or where it would. */
        int placeOf(int key) {
            int place = 0;
            for (int leap = MOST_ARCS; leap > 0; leap >>= 1) {
                if (place + leap <= arcs && keys[place + leap - 1] < key) {
                    place += leap;
                }
            }
            return place;
        }

        boolean bring(int key, long weight) {
            int place = placeOf(key);
            if (place < arcs && keys[place] == key) {
                weights[place] = Math.min(weights[place], weight);
                return true;
            }
            if (arcs >= MOST_ARCS) {
                return false;
            }
            System.arraycopy(keys, place, keys, place + 1, arcs - place);
            System.arraycopy(weights, place, weights, place + 1, arcs - place);
            keys[place] = key;
            weights[place] = weight;
            arcs++;
            return true;
        }

        boolean weightsFit() {
            boolean fit = startWeight <= MOST_WEIGHT;
            for (int q = 0; q < states; q++) {
                fit = fit && endWeights[q] <= MOST_WEIGHT;
            }
            for (int i = 0; i < arcs; i++) {
                fit = fit && weights[i] <= MOST_WEIGHT;
            }
            return fit;
        }

        /** Lessens the weights of the states, which begin at base, by all ways of empty steps. */
        void spread(long[] least, int base) {
            boolean lessened = true;
            for (int round = 0; round < states && lessened; round++) {
                lessened = false;
                for (int i = 0; i < arcs; i++) {
                    long sum = least[base + fromOf(keys[i])] + weights[i];
                    int to = base + toOf(keys[i]);
                    if (labelsOf(keys[i]) == 0 && sum < least[to]) {
                        least[to] = sum;
                        lessened = true;
                    }
                }
            }
        }

        /** A bit for each state that the start comes to. */
        int statesAhead() {
            int ahead = startState == NONE ? 0 : 1 << startState;
            for (int round = 0; round < states; round++) {
                for (int i = 0; i < arcs; i++) {
                    if (isIn(ahead, fromOf(keys[i]))) {
                        ahead |= 1 << toOf(keys[i]);
                    }
                }
            }
            return ahead;
        }

        /** A bit for each state that comes to one with an end weight. */
        int statesBehind() {
            int behind = 0;
            for (int q = 0; q < states; q++) {
                if (endWeights[q] != NONE) {
                    behind |= 1 << q;
                }
            }
            for (int round = 0; round < states; round++) {
                for (int i = 0; i < arcs; i++) {
                    if (isIn(behind, toOf(keys[i]))) {
                        behind |= 1 << fromOf(keys[i]);
                    }
                }
            }
            return behind;
        }

        boolean copiesLabels() {
            for (int i = 0; i < arcs; i++) {
                if (inOf(keys[i]) == 0 || inOf(keys[i]) != outOf(keys[i])) {
                    return false;
                }
            }
            return true;
        }

        /** A way of as many arcs as there are states comes to some state twice. */
        boolean hasCycle() {
            int going = (1 << states) - 1;
            for (int round = 0; round < states; round++) {
                int before = 0;
                for (int i = 0; i < arcs; i++) {
                    if (isIn(going, toOf(keys[i]))) {
                        before |= 1 << fromOf(keys[i]);
                    }
                }
                going = before;
            }
            return going != 0;
        }
    }

    private static final class Composing {
        private Machine first;
        private Machine second;
        private Machine made;
        private final int[] triples;

        Composing() {
            triples = new int[MOST_STATES];
        }

        /** Answers whether there was room for all states and arcs. */
        boolean build(Machine a, Machine b, Machine into) {
            first = a;
            second = b;
            made = into;
            made.clear(0);
            if (a.startState == NONE || b.startState == NONE) {
                return true;
            }
            int begin = find(tripleOf(a.startState, b.startState, 0));
            made.setStart(begin, a.startWeight + b.startWeight);
            boolean room = true;
            for (int s = 0; s < MOST_STATES && s < made.states && room; s++) {
                room = leave(s);
            }
            return room;
        }

        private static int tripleOf(int p, int q, int filter) {
            return p << 6 | q << 2 | filter;
        }

        private boolean leave(int s) {
            int p = triples[s] >> 6;
            int q = triples[s] >> 2 & 15;
            int filter = triples[s] & 3;
            made.setEndUnlessFar(s, first.endOrFar(p) + second.endOrFar(q));
            return bringBoth(s, p, q, false)
                && (filter != 0 || bringBoth(s, p, q, true))
                && (filter == 2 || bringFirst(s, p, q))
                && (filter == 1 || bringSecond(s, p, q));
        }

        private boolean bringBoth(int s, int p, int q, boolean empty) {
            int stop = first.placeOf(keyOf(p + 1, 0, 0));
            for (int i = first.placeOf(keyOf(p, 0, 0)); i < stop; i++) {
                int key = first.keys[i];
                int middle = outOf(key);
                if ((middle == 0) != empty) {
                    continue;
                }
                int last = second.placeOf(keyOf(q, labelPair(middle + 1, 0), 0));
                for (int j = second.placeOf(keyOf(q, labelPair(middle, 0), 0)); j < last; j++) {
                    int triple = tripleOf(toOf(key), toOf(second.keys[j]), 0);
                    int labels = labelPair(inOf(key), outOf(second.keys[j]));
                    if (!bring(s, triple, labels, first.weights[i] + second.weights[j])) {
                        return false;
                    }
                }
            }
            return true;
        }

        private boolean bringFirst(int s, int p, int q) {
            int stop = first.placeOf(keyOf(p + 1, 0, 0));
            for (int i = first.placeOf(keyOf(p, 0, 0)); i < stop; i++) {
                int key = first.keys[i];
                int triple = tripleOf(toOf(key), q, 1);
                int labels = labelPair(inOf(key), 0);
                if (outOf(key) == 0 && !bring(s, triple, labels, first.weights[i])) {
                    return false;
                }
            }
            return true;
        }

        private boolean bringSecond(int s, int p, int q) {
            int stop = second.placeOf(keyOf(q, labelPair(1, 0), 0));
            for (int j = second.placeOf(keyOf(q, 0, 0)); j < stop; j++) {
                int key = second.keys[j];
                int labels = labelPair(0, outOf(key));
                if (!bring(s, tripleOf(p, toOf(key), 2), labels, second.weights[j])) {
                    return false;
                }
            }
            return true;
        }

        private boolean bring(int s, int triple, int labels, long weight) {
            int to = find(triple);
            return to != NONE && made.bring(keyOf(s, labels, to), weight);
        }

        private int find(int triple) {
            for (int s = 0; s < made.states; s++) {
                if (triples[s] == triple) {
                    return s;
                }
            }
            if (made.states >= MOST_STATES) {
                return NONE;
            }
            triples[made.states] = triple;
            made.states++;
            return made.states - 1;
        }
    }

    private static final class Baring {
        private final long[] near;

        Baring() {
            near = new long[MOST_STATES];
        }

        /** Answers whether there was room for all arcs. */
        boolean build(Machine a, Machine made) {
            made.clear(a.states);
            made.setStart(a.startState, a.startWeight);
            boolean room = true;
            for (int p = 0; p < a.states && room; p++) {
                Arrays.fill(near, FAR);
                near[p] = 0;
                a.spread(near, 0);
                made.setEndUnlessFar(p, leastEnd(a));
                room = bringOthers(a, p, made);
            }
            return room;
        }

        private long leastEnd(Machine a) {
            long least = FAR;
            for (int q = 0; q < a.states; q++) {
                least = Math.min(least, near[q] + a.endOrFar(q));
            }
            return least;
        }

        private boolean bringOthers(Machine a, int p, Machine made) {
            for (int i = 0; i < a.arcs; i++) {
                int labels = labelsOf(a.keys[i]);
                long ahead = near[fromOf(a.keys[i])];
                if (labels != 0 && ahead < FAR) {
                    int key = keyOf(p, labels, toOf(a.keys[i]));
                    if (!made.bring(key, ahead + a.weights[i])) {
                        return false;
                    }
                }
            }
            return true;
        }
    }

    private static final class Determining {
        private Machine given;
        private Machine made;
        /** For each found set a row of rests by state, FAR where the state is not in it. */
        private final long[] rests;
        private final long[] next;

        Determining() {
            rests = new long[MOST_STATES * MOST_STATES];
            next = new long[MOST_STATES];
        }

        /** Answers whether there was room for all states and arcs. */
        boolean build(Machine a, Machine into) {
            given = a;
            made = into;
            made.clear(0);
            if (a.startState == NONE) {
                return true;
            }
            Arrays.fill(next, FAR);
            next[a.startState] = 0;
            made.setStart(findNext(), a.startWeight);
            boolean room = true;
            for (int s = 0; s < MOST_STATES && s < made.states && room; s++) {
                made.setEndUnlessFar(s, leastEnd(s));
                for (int label = 1; label <= MOST_LABEL && room; label++) {
                    room = leave(s, label);
                }
            }
            return room;
        }

        private long leastEnd(int s) {
            long least = FAR;
            for (int q = 0; q < given.states; q++) {
                least = Math.min(least, rests[s * MOST_STATES + q] + given.endOrFar(q));
            }
            return least;
        }

        private boolean leave(int s, int label) {
            long weight = sumUp(s, label);
            if (weight >= FAR) {
                return true;
            }
            for (int q = 0; q < MOST_STATES; q++) {
                next[q] = next[q] < FAR ? next[q] - weight : FAR;
            }
            int to = findNext();
            return to != NONE && made.bring(keyOf(s, labelPair(label, label), to), weight);
        }

        /** Leaves the least sum for each state behind the label in next, and answers the least. */
        private long sumUp(int s, int label) {
            Arrays.fill(next, FAR);
            long least = FAR;
            for (int i = 0; i < given.arcs; i++) {
                int key = given.keys[i];
                long sum = rests[s * MOST_STATES + fromOf(key)] + given.weights[i];
                if (inOf(key) == label && sum < next[toOf(key)]) {
                    next[toOf(key)] = sum;
                    least = Math.min(least, sum);
                }
            }
            return least;
        }

        private int findNext() {
            for (int s = 0; s < made.states; s++) {
                if (isNext(s)) {
                    return s;
                }
            }
            if (made.states >= MOST_STATES) {
                return NONE;
            }
            System.arraycopy(next, 0, rests, made.states * MOST_STATES, MOST_STATES);
            made.states++;
            return made.states - 1;
        }

        private boolean isNext(int s) {
            for (int q = 0; q < MOST_STATES; q++) {
                if (rests[s * MOST_STATES + q] != next[q]) {
                    return false;
                }
            }
            return true;
        }
    }

    /** For each state its onward weight and, of the ways that have it, the fewest arcs. */
    private static final class Onward {
        /** Above the arcs of any best way, which comes to no state twice. */
        private static final int LENGTHS = 32;

        /** LENGTHS times the weight and the arcs: the lesser number is the better way. */
        private final long[] costs;

        Onward() {
            costs = new long[MOST_STATES];
        }

        void look(Machine a) {
            for (int q = 0; q < a.states; q++) {
                costs[q] = a.endWeights[q] == NONE ? FAR : a.endWeights[q] * LENGTHS;
            }
            boolean lessened = true;
            for (int round = 0; round < a.states && lessened; round++) {
                lessened = false;
                for (int i = 0; i < a.arcs; i++) {
                    long cost = costAlong(a, i);
                    if (cost < costs[fromOf(a.keys[i])]) {
                        costs[fromOf(a.keys[i])] = cost;
                        lessened = true;
                    }
                }
            }
        }

        private long costAlong(Machine a, int i) {
            return costs[toOf(a.keys[i])] + a.weights[i] * LENGTHS + 1;
        }

        boolean isThere(int q) {
            return costs[q] < FAR;
        }

        long weightOf(int q) {
            return costs[q] / LENGTHS;
        }

        int arcsOf(int q) {
            return (int) (costs[q] % LENGTHS);
        }

        /** The first arc, in order, with which a best way from q can begin. */
        int bestArc(Machine a, int q) {
            for (int i = a.placeOf(keyOf(q, 0, 0)); i < a.arcs; i++) {
                if (fromOf(a.keys[i]) == q && costAlong(a, i) == costs[q]) {
                    return i;
                }
            }
            return NONE;
        }
    }

    private static final class BestPath {
        int length;
        final int[] keys;
        final long[] weights;

        BestPath() {
            keys = new int[MOST_STATES];
            weights = new long[MOST_STATES];
        }

        void keep(Machine a, Onward onward) {
            int q = a.startState;
            int arcs = Math.min(onward.arcsOf(q), MOST_STATES);
            length = 0;
            for (int k = 0; k < arcs; k++) {
                int i = onward.bestArc(a, q);
                if (i == NONE) {
                    return;
                }
                keys[k] = a.keys[i];
                weights[k] = a.weights[i];
                length++;
                q = toOf(keys[k]);
            }
        }
    }

    private static final class Row {
        int length;
        private final int[] lastFirst;

        Row() {
            lastFirst = new int[MOST_ROW];
        }

        /** Answers whether the number tells a row. */
        boolean take(int number) {
            int rest = number;
            length = 0;
            for (int k = 0; k < MOST_ROW && rest > 0; k++) {
                int label = rest % 10;
                if (label == 0 || label > MOST_LABEL) {
                    return false;
                }
                lastFirst[k] = label;
                length++;
                rest /= 10;
            }
            return rest == 0;
        }

        /** How much of the row is done after a label, or NONE when it does not come next. */
        int doneAfter(int done, int label) {
            if (label == 0) {
                return done;
            }
            boolean next = done < length && lastFirst[length - 1 - done] == label;
            return next ? done + 1 : NONE;
        }
    }

    private static final class Weighing {
        private final Row read;
        private final Row written;
        /** By labels read, labels written and state. */
        private final long[] least;

        Weighing() {
            read = new Row();
            written = new Row();
            least = new long[(MOST_ROW + 1) * (MOST_ROW + 1) * MOST_STATES];
        }

        private static int baseOf(int i, int j) {
            return (i * (MOST_ROW + 1) + j) * MOST_STATES;
        }

        long leastWeight(Machine a, int x, int y) {
            if (!read.take(x) || !written.take(y) || a.startState == NONE) {
                return NONE;
            }
            Arrays.fill(least, FAR);
            least[a.startState] = a.startWeight;
            for (int i = 0; i <= read.length; i++) {
                for (int j = 0; j <= written.length; j++) {
                    a.spread(least, baseOf(i, j));
                    leave(a, i, j);
                }
            }
            long sum = leastEnd(a, baseOf(read.length, written.length));
            return sum < FAR ? sum : NONE;
        }

        private void leave(Machine a, int i, int j) {
            for (int k = 0; k < a.arcs; k++) {
                int key = a.keys[k];
                int readThen = read.doneAfter(i, inOf(key));
                int writtenThen = written.doneAfter(j, outOf(key));
                if (labelsOf(key) != 0 && readThen != NONE && writtenThen != NONE) {
                    int at = baseOf(readThen, writtenThen) + toOf(key);
                    long sum = least[baseOf(i, j) + fromOf(key)] + a.weights[k];
                    least[at] = Math.min(least[at], sum);
                }
            }
        }

        private long leastEnd(Machine a, int base) {
            long sum = FAR;
            for (int q = 0; q < a.states; q++) {
                sum = Math.min(sum, least[base + q] + a.endOrFar(q));
            }
            return sum;
        }
    }

    private static final class Text {
        int length;
        private final char[] letters;

        Text() {
            letters = new char[MOST_LETTERS];
        }

        int codeAt(int i) {
            return i >= 0 && i < length ? letters[i] : NONE;
        }

        void put(int code) {
            if (length < MOST_LETTERS) {
                letters[length] = (char) code;
                length++;
            }
        }

        private void putNumber(long number) {
            long unit = 1;
            for (int digits = 1; digits < MOST_DIGITS && unit * 10 <= number; digits++) {
                unit *= 10;
            }
            for (; unit > 0; unit /= 10) {
                put('0' + (int) (number / unit % 10));
            }
        }

        private void putWeight(long weight) {
            put('/');
            putNumber(weight);
            put(';');
        }

        private void putStateWeight(char kind, int q, long weight) {
            put(kind);
            putNumber(q);
            putWeight(weight);
        }

        private void putArc(int key, long weight) {
            putNumber(fromOf(key));
            put('-');
            putNumber(toOf(key));
            put(':');
            putNumber(inOf(key));
            putNumber(outOf(key));
            putWeight(weight);
        }

        void tell(Machine a) {
            length = 0;
            put('n');
            putNumber(a.states);
            put(';');
            if (a.startState != NONE) {
                putStateWeight('s', a.startState, a.startWeight);
            }
            for (int q = 0; q < a.states; q++) {
                if (a.endWeights[q] != NONE) {
                    putStateWeight('f', q, a.endWeights[q]);
                }
            }
            for (int i = 0; i < a.arcs; i++) {
                putArc(a.keys[i], a.weights[i]);
            }
        }
    }

    /** Its readers answer FINE or the fault, and leave the number that they read in value. */
    private static final class Parsing {
        private Text text;
        private Machine made;
        private int at;
        private long value;

        int build(Text told, Machine into) {
            text = told;
            made = into;
            at = 0;
            int fault = readSize();
            for (int k = 0; k < MOST_LETTERS && at < text.length && fault == FINE; k++) {
                fault = readItem();
            }
            return fault;
        }

        private int readSize() {
            int fault = readSign('n');
            fault = fault != FINE ? fault : readNumber(MOST_STATES);
            fault = fault != FINE ? fault : readSign(';');
            if (fault == FINE) {
                made.clear((int) value);
            }
            return fault;
        }

        private int readItem() {
            switch (text.codeAt(at)) {
                case 's':
                    at++;
                    return readStart();
                case 'f':
                    at++;
                    return readEnd();
                default:
                    return readArc();
            }
        }

        private int readStart() {
            int fault = readState();
            int q = (int) value;
            if (fault == FINE && made.startState != NONE) {
                fault = TWICE;
            }
            fault = fault != FINE ? fault : readWeight();
            if (fault == FINE) {
                made.setStart(q, value);
            }
            return fault;
        }

        private int readEnd() {
            int fault = readState();
            int q = (int) value;
            if (fault == FINE && made.endWeights[q] != NONE) {
                fault = TWICE;
            }
            fault = fault != FINE ? fault : readWeight();
            if (fault == FINE) {
                made.endWeights[q] = value;
            }
            return fault;
        }

        private int readArc() {
            int fault = readState();
            int from = (int) value;
            fault = fault != FINE ? fault : readSign('-');
            fault = fault != FINE ? fault : readState();
            int to = (int) value;
            fault = fault != FINE ? fault : readSign(':');
            fault = fault != FINE ? fault : readLabel();
            int in = (int) value;
            fault = fault != FINE ? fault : readLabel();
            int out = (int) value;
            fault = fault != FINE ? fault : readWeight();
            if (fault == FINE && !made.bring(keyOf(from, labelPair(in, out), to), value)) {
                fault = FULL;
            }
            return fault;
        }

        private int readState() {
            return readNumber(made.states - 1);
        }

        private int readWeight() {
            int fault = readSign('/');
            fault = fault != FINE ? fault : readNumber(MOST_WEIGHT);
            return fault != FINE ? fault : readSign(';');
        }

        private int readSign(char sign) {
            if (text.codeAt(at) != sign) {
                return SYNTAX;
            }
            at++;
            return FINE;
        }

        private static boolean isDigit(int code) {
            return code >= '0' && code <= '9';
        }

        private int readLabel() {
            if (!isDigit(text.codeAt(at))) {
                return SYNTAX;
            }
            value = text.codeAt(at) - '0';
            at++;
            return value > MOST_LABEL ? RANGE : FINE;
        }

        private int readNumber(long most) {
            int digits = 0;
            value = 0;
            while (digits < MOST_DIGITS && isDigit(text.codeAt(at))) {
                if (digits == 1 && value == 0) {
                    return SYNTAX;
                }
                value = 10 * value + text.codeAt(at) - '0';
                at++;
                digits++;
            }
            if (digits == 0 || isDigit(text.codeAt(at))) {
                return SYNTAX;
            }
            return value > most ? RANGE : FINE;
        }
    }
}

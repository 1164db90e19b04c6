import java.util.Arrays;

/**
 * The most and the fewest cycles of a program: blocks with times and lines that they touch, edges
 * between them with bounds, pairs of edges that are never both taken; what hits or misses a cache
 * for sure, by the greatest and the least ages of lines.
 */
public final class WorstPaths {
    /** Nothing there. */
    public static final int NONE = -1;

    private static final int MOST_BLOCKS = 40;
    private static final int MOST_TOUCHES = 6;
    private static final int MOST_LINES = 40;
    private static final int MOST_EDGES = 80;
    private static final int MOST_PAIRS = 3;
    private static final int MOST_TIME = 100000;
    private static final int MOST_BOUND = 15;
    private static final int MOST_STATES = 40000;

    private static final int OPEN = 0;
    private static final int HITS = 1;
    private static final int MISSES = 2;

    private final Program program;
    private final Ages ages;
    private final Search search;
    private boolean agesStand;
    private boolean searchStands;

    public WorstPaths(int sets, int ways, int penalty) {
        program = new Program();
        ages = new Ages(1 << Math.floorMod(sets, 3), 1 + Math.floorMod(ways - 1, 4),
                Math.floorMod(penalty, 1000));
        search = new Search();
        agesStand = false;
        searchStands = false;
    }

    public int block(int time) throws IllegalArgumentException, UnsupportedOperationException {
        if (time < 0 || time > MOST_TIME) {
            throw new IllegalArgumentException("a time is 0 .. 100000");
        }
        if (program.blocks >= MOST_BLOCKS) {
            throw new UnsupportedOperationException("there are forty blocks");
        }
        forgetAges();
        return program.addBlock(time);
    }

    public int touch(int block, int line)
            throws IndexOutOfBoundsException, UnsupportedOperationException {
        if (!program.hasBlock(block)) {
            throw new IndexOutOfBoundsException("no such block");
        }
        if (program.touchCounts[block] >= MOST_TOUCHES) {
            throw new UnsupportedOperationException("the block has six touches");
        }
        if (!program.hasRoomFor(line)) {
            throw new UnsupportedOperationException("there are forty lines");
        }
        forgetAges();
        return program.addTouch(block, line);
    }

    public int edge(int from, int to)
            throws IndexOutOfBoundsException, UnsupportedOperationException {
        if (!program.hasBlock(from) || !program.hasBlock(to)) {
            throw new IndexOutOfBoundsException("no such block");
        }
        if (program.edges >= MOST_EDGES) {
            throw new UnsupportedOperationException("there are eighty edges");
        }
        forgetAges();
        return program.addEdge(from, to);
    }

    public int bound(int edge, int n) throws IndexOutOfBoundsException, IllegalArgumentException {
        if (!program.hasEdge(edge)) {
            throw new IndexOutOfBoundsException("no such edge");
        }
        if (n != NONE && (n < 0 || n > MOST_BOUND)) {
            throw new IllegalArgumentException("a bound is NONE or 0 .. 15");
        }
        int before = program.bounds[edge];
        program.bounds[edge] = n;
        searchStands = false;
        return before;
    }

    public int pair(int a, int b)
            throws IndexOutOfBoundsException, IllegalArgumentException,
            UnsupportedOperationException {
        if (!program.hasEdge(a) || !program.hasEdge(b)) {
            throw new IndexOutOfBoundsException("no such edge");
        }
        if (a == b) {
            throw new IllegalArgumentException("a pair is of different edges");
        }
        if (program.pairs >= MOST_PAIRS) {
            throw new UnsupportedOperationException("there are three pairs");
        }
        searchStands = false;
        return program.addPair(a, b);
    }

    public long worst() throws UnsupportedOperationException {
        if (!hasAnswer()) {
            throw new UnsupportedOperationException("there is no answer");
        }
        return search.mostOfAll();
    }

    public long best() throws UnsupportedOperationException {
        if (!hasAnswer()) {
            throw new UnsupportedOperationException("there is no answer");
        }
        return search.fewestOfAll();
    }

    public int way(int what, int k)
            throws UnsupportedOperationException, IndexOutOfBoundsException {
        if (!hasAnswer()) {
            throw new UnsupportedOperationException("there is no answer");
        }
        if (k < 0 || !isGreatestOrLeast(what)) {
            throw new IndexOutOfBoundsException("no such edge of a way");
        }
        return search.edgeOnWay(program, ages, what, k);
    }

    public int touches(int block, int i) throws IndexOutOfBoundsException {
        if (!program.hasBlock(block) || i < 0 || i >= program.touchCounts[block]) {
            throw new IndexOutOfBoundsException("no such touch");
        }
        settleAges();
        return ages.come[block] ? ages.outcomes[block * MOST_TOUCHES + i] : NONE;
    }

    public int age(int block, int line, int what) throws IndexOutOfBoundsException {
        if (!program.hasBlock(block) || !isGreatestOrLeast(what)) {
            throw new IndexOutOfBoundsException("no such block or what");
        }
        settleAges();
        return ages.ageAtBegin(block, program.slotOf(line), what);
    }

    public int time(int block, int what) throws IndexOutOfBoundsException {
        if (!program.hasBlock(block) || !isGreatestOrLeast(what)) {
            throw new IndexOutOfBoundsException("no such block or what");
        }
        settleAges();
        return ages.timesBy(what)[block];
    }

    public int count(int what) {
        switch (what) {
            case 0:
                return program.blocks;
            case 1:
                return program.edges;
            case 2:
                return program.pairs;
            case 3:
                return program.lines;
            case 4:
                settleAges();
                return ages.comeCount;
            case 5:
                return ages.sets;
            case 6:
                return ages.size;
            case 7:
                return ages.penalty;
            default:
                return NONE;
        }
    }

    private static boolean isGreatestOrLeast(int what) {
        return what == 0 || what == 1;
    }

    // Ways are timed by ages, so what makes ages stale makes ways stale, too; bounds and pairs
    // do not matter for ages and make ways stale alone.
    private void forgetAges() {
        agesStand = false;
        searchStands = false;
    }

    private void settleAges() {
        if (!agesStand) {
            ages.settle(program);
            agesStand = true;
        }
    }

    private boolean hasAnswer() {
        settleAges();
        if (!searchStands) {
            search.solve(program, ages);
            searchStands = true;
        }
        return search.answered;
    }

    /** What has been told: blocks, their touches, edges, bounds and pairs. */
    private static final class Program {
        int blocks;
        int lines;
        int edges;
        int pairs;
        final int[] times = new int[MOST_BLOCKS];
        final int[] touchCounts = new int[MOST_BLOCKS];
        // The slots (places in lineOfSlot) of a block's touches, six places for each block.
        final int[] touchSlots = new int[MOST_BLOCKS * MOST_TOUCHES];
        final int[] lineOfSlot = new int[MOST_LINES];
        final int[] from = new int[MOST_EDGES];
        final int[] to = new int[MOST_EDGES];
        final int[] bounds = new int[MOST_EDGES];
        final int[] pairA = new int[MOST_PAIRS];
        final int[] pairB = new int[MOST_PAIRS];
        // Edges by the block that they leave, lowest first: those of block b stand in leaving at
        // firstLeaving[b] .. firstLeaving[b + 1] - 1.
        final int[] leaving = new int[MOST_EDGES];
        final int[] firstLeaving = new int[MOST_BLOCKS + 1];

        boolean hasBlock(int b) {
            return b >= 0 && b < blocks;
        }

        boolean hasEdge(int e) {
            return e >= 0 && e < edges;
        }

        boolean hasRoomFor(int line) {
            return lines < MOST_LINES || slotOf(line) != NONE;
        }

        int slotOf(int line) {
            for (int slot = 0; slot < lines; slot++) {
                if (lineOfSlot[slot] == line) {
                    return slot;
                }
            }
            return NONE;
        }

        int addBlock(int duration) {
            times[blocks] = duration;
            blocks++;
            return blocks - 1;
        }

        int addTouch(int b, int line) {
            int slot = slotOf(line);
            if (slot == NONE) {
                slot = lines;
                lineOfSlot[slot] = line;
                lines++;
            }
            touchSlots[b * MOST_TOUCHES + touchCounts[b]] = slot;
            touchCounts[b]++;
            return touchCounts[b];
        }

        int addEdge(int start, int end) {
            int e = edges;
            from[e] = start;
            to[e] = end;
            bounds[e] = NONE;
            int place = firstLeaving[start + 1];
            for (int i = e; i > place; i--) {
                leaving[i] = leaving[i - 1];
            }
            leaving[place] = e;
            for (int b = start + 1; b <= MOST_BLOCKS; b++) {
                firstLeaving[b]++;
            }
            edges++;
            return e;
        }

        int addPair(int a, int b) {
            pairA[pairs] = a;
            pairB[pairs] = b;
            pairs++;
            return pairs;
        }
    }

    /** The cache: greatest and least ages where blocks begin, and what follows for their times. */
    private static final class Ages {
        // Every pass but the last one raises a greatest age or lowers a least age of a line in a
        // block or comes to a block: 40 * 40 * 2 * 4 + 40 passes at the most.
        private static final int MOST_PASSES = 1000000;

        final int sets;
        final int size;
        final int penalty;
        final boolean[] come = new boolean[MOST_BLOCKS];
        int comeCount;
        final int[] outcomes = new int[MOST_BLOCKS * MOST_TOUCHES];
        private final int[] greatestTimes = new int[MOST_BLOCKS];
        private final int[] leastTimes = new int[MOST_BLOCKS];
        private final boolean[] changed = new boolean[MOST_BLOCKS];
        // A row of forty slots for each block. The age 'size' says that a line is not there: so
        // the joins are a plain maximum and a plain minimum.
        private final int[] greatest = new int[MOST_BLOCKS * MOST_LINES];
        private final int[] least = new int[MOST_BLOCKS * MOST_LINES];
        // The ages within the block that is being gone through.
        private final int[] greatestNow = new int[MOST_LINES];
        private final int[] leastNow = new int[MOST_LINES];

        Ages(int sets, int size, int penalty) {
            this.sets = sets;
            this.size = size;
            this.penalty = penalty;
        }

        int[] timesBy(int what) {
            return what == 0 ? greatestTimes : leastTimes;
        }

        int ageAtBegin(int b, int slot, int what) {
            if (slot == NONE || !come[b]) {
                return NONE;
            }
            int[] rows = what == 0 ? greatest : least;
            int found = rows[b * MOST_LINES + slot];
            return found < size ? found : NONE;
        }

        void settle(Program p) {
            begin(p);
            boolean again = true;
            for (int pass = 0; again && pass < MOST_PASSES; pass++) {
                again = spread(p);
            }
            comeCount = 0;
            for (int b = 0; b < p.blocks; b++) {
                judge(p, b);
                if (come[b]) {
                    comeCount++;
                }
            }
        }

        private void begin(Program p) {
            for (int b = 0; b < MOST_BLOCKS; b++) {
                come[b] = false;
                changed[b] = false;
            }
            if (p.blocks > 0) {
                Arrays.fill(greatestNow, size);
                Arrays.fill(leastNow, size);
                changed[0] = joinInto(0, p.lines);
            }
        }

        // Goes once through every block whose ages have changed; whether any change is left.
        private boolean spread(Program p) {
            boolean again = false;
            for (int b = 0; b < p.blocks; b++) {
                if (changed[b]) {
                    changed[b] = false;
                    goThrough(p, b);
                    for (int i = p.firstLeaving[b]; i < p.firstLeaving[b + 1]; i++) {
                        int next = p.to[p.leaving[i]];
                        if (joinInto(next, p.lines)) {
                            changed[next] = true;
                            again = true;
                        }
                    }
                }
            }
            return again;
        }

        // Joins the ages of now into those where a block begins; whether that changed them.
        private boolean joinInto(int b, int lines) {
            int row = b * MOST_LINES;
            boolean first = !come[b];
            boolean any = first;
            come[b] = true;
            for (int slot = 0; slot < lines; slot++) {
                if (first || greatestNow[slot] > greatest[row + slot]) {
                    greatest[row + slot] = greatestNow[slot];
                    any = true;
                }
                if (first || leastNow[slot] < least[row + slot]) {
                    least[row + slot] = leastNow[slot];
                    any = true;
                }
            }
            return any;
        }

        private void goThrough(Program p, int b) {
            int row = b * MOST_LINES;
            for (int slot = 0; slot < p.lines; slot++) {
                greatestNow[slot] = greatest[row + slot];
                leastNow[slot] = least[row + slot];
            }
            for (int i = 0; i < p.touchCounts[b]; i++) {
                int place = b * MOST_TOUCHES + i;
                int slot = p.touchSlots[place];
                outcomes[place] = outcomeNow(slot);
                use(p, slot);
            }
        }

        private int outcomeNow(int slot) {
            if (greatestNow[slot] < size) {
                return HITS;
            }
            return leastNow[slot] < size ? OPEN : MISSES;
        }

        private void use(Program p, int used) {
            int ownGreatest = greatestNow[used];
            int ownLeast = leastNow[used];
            for (int slot = 0; slot < p.lines; slot++) {
                if (slot != used && sameSet(p.lineOfSlot[slot], p.lineOfSlot[used])) {
                    if (greatestNow[slot] < ownGreatest) {
                        greatestNow[slot]++;
                    }
                    if (leastNow[slot] <= ownLeast && leastNow[slot] < size) {
                        leastNow[slot]++;
                    }
                }
            }
            greatestNow[used] = 0;
            leastNow[used] = 0;
        }

        private boolean sameSet(int lineA, int lineB) {
            return ((lineA ^ lineB) & (sets - 1)) == 0;
        }

        // The last time that a block was gone through, its ages had stopped changing: so the
        // outcomes that were written down then are the settled ones.
        private void judge(Program p, int b) {
            int high = p.times[b];
            int low = p.times[b];
            if (come[b]) {
                for (int i = 0; i < p.touchCounts[b]; i++) {
                    int outcome = outcomes[b * MOST_TOUCHES + i];
                    if (outcome != HITS) {
                        high += penalty;
                    }
                    if (outcome == MISSES) {
                        low += penalty;
                    }
                }
            }
            greatestTimes[b] = high;
            leastTimes[b] = low;
        }
    }

    /**
     * The most and the fewest cycles of all ways. A state is a block and a code of how often each
     * bounded edge and whether each edge of a pair was taken. Every edge leads to a higher code, or
     * in the same code to a block that is later in the order: so states have an order, too.
     */
    private static final class Search {
        boolean answered;
        private int codes;
        // Blocks that are come to, each before those to which an edge without a bound leads.
        private final int[] order = new int[MOST_BLOCKS];
        private int ordered;
        private final int[] arriving = new int[MOST_BLOCKS];
        // In the code: what an edge's count is multiplied with (0: not counted), the bit that an
        // edge of a pair sets, and the bits that forbid an edge.
        private final int[] unit = new int[MOST_EDGES];
        private final int[] flag = new int[MOST_EDGES];
        private final int[] forbidding = new int[MOST_EDGES];
        // By state: the time from there to the end, NONE where no way ends. Made with the object
        // for all the states that an answer may need: no call makes rows of its own.
        private final long[] most = new long[MOST_STATES];
        private final long[] fewest = new long[MOST_STATES];

        long mostOfAll() {
            return most[0];
        }

        long fewestOfAll() {
            return fewest[0];
        }

        void solve(Program p, Ages ages) {
            answered = false;
            if (p.blocks == 0 || !fitsInStates(p) || !orderBlocks(p, ages)) {
                return;
            }
            layOutCode(p);
            valueStates(p, ages);
            answered = most[0] != NONE;
        }

        private boolean fitsInStates(Program p) {
            int states = p.blocks;
            for (int e = 0; e < p.edges && states <= MOST_STATES; e++) {
                if (p.bounds[e] != NONE) {
                    states *= p.bounds[e] + 1;
                }
                if (isInPair(p, e)) {
                    states *= 2;
                }
            }
            return states <= MOST_STATES;
        }

        private static boolean isInPair(Program p, int e) {
            for (int i = 0; i < p.pairs; i++) {
                if (p.pairA[i] == e || p.pairB[i] == e) {
                    return true;
                }
            }
            return false;
        }

        // Orders the blocks that are come to; false, when edges without a bound go round there.
        private boolean orderBlocks(Program p, Ages ages) {
            countArriving(p, ages);
            ordered = 0;
            for (int b = 0; b < p.blocks; b++) {
                if (ages.come[b] && arriving[b] == 0) {
                    putInOrder(b);
                }
            }
            for (int done = 0; done < ordered && done < MOST_BLOCKS; done++) {
                int b = order[done];
                for (int i = p.firstLeaving[b]; i < p.firstLeaving[b + 1]; i++) {
                    int e = p.leaving[i];
                    if (p.bounds[e] == NONE) {
                        arriving[p.to[e]]--;
                        if (arriving[p.to[e]] == 0) {
                            putInOrder(p.to[e]);
                        }
                    }
                }
            }
            return ordered == ages.comeCount;
        }

        private void countArriving(Program p, Ages ages) {
            Arrays.fill(arriving, 0);
            for (int e = 0; e < p.edges; e++) {
                if (p.bounds[e] == NONE && ages.come[p.from[e]]) {
                    arriving[p.to[e]]++;
                }
            }
        }

        private void putInOrder(int b) {
            if (ordered < MOST_BLOCKS) {
                order[ordered] = b;
                ordered++;
            }
        }

        private void layOutCode(Program p) {
            Arrays.fill(unit, 0);
            Arrays.fill(flag, 0);
            Arrays.fill(forbidding, 0);
            codes = 1;
            for (int e = 0; e < p.edges; e++) {
                if (isInPair(p, e)) {
                    flag[e] = codes;
                    codes *= 2;
                }
            }
            for (int i = 0; i < p.pairs; i++) {
                forbidding[p.pairA[i]] |= flag[p.pairB[i]];
                forbidding[p.pairB[i]] |= flag[p.pairA[i]];
            }
            for (int e = 0; e < p.edges; e++) {
                if (p.bounds[e] > 0) {
                    unit[e] = codes;
                    codes *= p.bounds[e] + 1;
                }
            }
        }

        // The code behind an edge; NONE, when bounds or pairs forbid the edge.
        private int codeBehind(Program p, int e, int code) {
            int n = p.bounds[e];
            if (n == 0 || (code & forbidding[e]) != 0) {
                return NONE;
            }
            if (n > 0 && unit[e] > 0 && code / unit[e] % (n + 1) >= n) {
                return NONE;
            }
            return (code | flag[e]) + unit[e];
        }

        private int stateBehind(Program p, int e, int code) {
            int next = codeBehind(p, e, code);
            return next == NONE ? NONE : next * p.blocks + p.to[e];
        }

        // States that no way comes to get values, too: finding them out would take as long.
        private void valueStates(Program p, Ages ages) {
            for (int code = codes - 1; code >= 0; code--) {
                for (int i = ordered - 1; i >= 0; i--) {
                    valueState(p, ages, code, order[i]);
                }
            }
        }

        private void valueState(Program p, Ages ages, int code, int b) {
            boolean isEnd = p.firstLeaving[b] == p.firstLeaving[b + 1];
            long high = isEnd ? 0 : NONE;
            long low = isEnd ? 0 : NONE;
            for (int i = p.firstLeaving[b]; i < p.firstLeaving[b + 1]; i++) {
                int state = stateBehind(p, p.leaving[i], code);
                if (state != NONE && most[state] != NONE) {
                    high = Math.max(high, most[state]);
                    low = low == NONE ? fewest[state] : Math.min(low, fewest[state]);
                }
            }
            int own = code * p.blocks + b;
            most[own] = high == NONE ? NONE : high + ages.timesBy(0)[b];
            fewest[own] = low == NONE ? NONE : low + ages.timesBy(1)[b];
        }

        // Edge k of the greatest (what 0) or least way (1): no state comes twice on a way.
        int edgeOnWay(Program p, Ages ages, int what, int k) {
            int code = 0;
            int b = 0;
            int states = codes * p.blocks;
            for (int i = 0; i < states; i++) {
                int e = lowestEdge(p, ages, what, code, b);
                if (e == NONE || i == k) {
                    return e;
                }
                code = codeBehind(p, e, code);
                b = p.to[e];
            }
            return NONE;
        }

        private int lowestEdge(Program p, Ages ages, int what, int code, int b) {
            long[] values = what == 0 ? most : fewest;
            long rest = values[code * p.blocks + b] - ages.timesBy(what)[b];
            for (int i = p.firstLeaving[b]; i < p.firstLeaving[b + 1]; i++) {
                int state = stateBehind(p, p.leaving[i], code);
                if (state != NONE && values[state] == rest) {
                    return p.leaving[i];
                }
            }
            return NONE;
        }
    }
}

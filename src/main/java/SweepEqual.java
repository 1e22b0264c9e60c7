import java.util.Arrays;

/** Two designs over the same inputs and latches: what is the same in them, where they differ, and both clocked. */
public final class SweepEqual {
    public static final int NONE = -1;

    private static final int MOST_INPUTS = 8;
    private static final int MOST_LATCHES = 4;
    private static final int MOST_OUTPUTS = 16;
    private static final int INPUT_MASK = (1 << MOST_INPUTS) - 1;
    private static final int FIRST_LATCH_BIT = 8;
    private static final int NEXT_THINGS = 100;
    private static final int START_THINGS = 200;
    private static final int HOW_MANY_THING = 300;

    private final Nodes nodes;
    private final Design designA;
    private final Design designB;
    private int inputCount;
    private int latchCount;
    private int steps;
    private int apartStep;

    public SweepEqual() {
        nodes = new Nodes();
        designA = new Design();
        designB = new Design();
        apartStep = NONE;
    }

    public int input() throws IllegalStateException {
        if (inputCount == MOST_INPUTS) {
            throw new IllegalStateException("there are 8 inputs");
        }
        needRoomForNode();
        int literal = nodes.addVariable(inputCount);
        inputCount++;
        return literal;
    }

    public int latch(int startA, int startB) throws IllegalStateException, IllegalArgumentException {
        if (latchCount == MOST_LATCHES) {
            throw new IllegalStateException("there are 4 latches");
        }
        needRoomForNode();
        needStart(startA);
        needStart(startB);
        int literal = nodes.addVariable(FIRST_LATCH_BIT + latchCount);
        designA.addLatch(latchCount, startA, literal);
        designB.addLatch(latchCount, startB, literal);
        latchCount++;
        backToStarts();
        return literal;
    }

    public int and(int side, int a, int b)
            throws IndexOutOfBoundsException, IllegalStateException, IllegalArgumentException {
        needSide(side);
        needLiteral(a);
        needLiteral(b);
        needRoomForNode();
        needOwn(side, a);
        needOwn(side, b);
        return nodes.addAnd(side, a, b);
    }

    public int output(int side, int literal)
            throws IndexOutOfBoundsException, IllegalStateException, IllegalArgumentException {
        needSide(side);
        needLiteral(literal);
        Design design = designOf(side);
        if (design.outputCount == MOST_OUTPUTS) {
            throw new IllegalStateException("there are 16 outputs");
        }
        needOwn(side, literal);
        return design.addOutput(literal);
    }

    public int next(int side, int latch, int literal) throws IndexOutOfBoundsException, IllegalArgumentException {
        needSide(side);
        needLatch(latch);
        needLiteral(literal);
        needOwn(side, literal);
        Design design = designOf(side);
        int before = design.nexts[latch];
        design.nexts[latch] = literal;
        return before;
    }

    public boolean same(int a, int b) throws IndexOutOfBoundsException {
        needLiteral(a);
        needLiteral(b);
        return nodes.areSame(a, b);
    }

    public int first(int literal) throws IndexOutOfBoundsException {
        needLiteral(literal);
        return nodes.firstOf(literal);
    }

    public int classes() {
        return nodes.countClasses();
    }

    public int merged(int side) throws IndexOutOfBoundsException {
        needSide(side);
        return nodes.countMerged(side);
    }

    public int hangs(int literal) throws IndexOutOfBoundsException {
        needLiteral(literal);
        return nodes.supportOf(literal);
    }

    public int ones(int literal) throws IndexOutOfBoundsException {
        needLiteral(literal);
        // Each variable that there is not doubles the count over all twelve.
        return nodes.countOnes(literal) >> (Nodes.VARIABLES - inputCount - latchCount);
    }

    public int value(int literal, int assignment) throws IndexOutOfBoundsException {
        needLiteral(literal);
        return nodes.valueIn(literal, assignment);
    }

    public int differs(int k) throws IndexOutOfBoundsException {
        if (k < 0) {
            throw new IndexOutOfBoundsException("k is below 0");
        }
        int outputs = sharedOutputs();
        int before = countDifferent(designA.outputs, designB.outputs, outputs);
        if (k < before) {
            return placeOfDifferent(designA.outputs, designB.outputs, outputs, k);
        }
        int left = k - before;
        before = countDifferent(designA.nexts, designB.nexts, latchCount);
        if (left < before) {
            return NEXT_THINGS + placeOfDifferent(designA.nexts, designB.nexts, latchCount, left);
        }
        return differentStartOrSize(left - before);
    }

    public int witness(int thing) throws IndexOutOfBoundsException {
        if (thing >= 0 && thing < sharedOutputs()) {
            return nodes.leastDifference(designA.outputs[thing], designB.outputs[thing]);
        }
        if (thing >= NEXT_THINGS && thing < NEXT_THINGS + latchCount) {
            int latch = thing - NEXT_THINGS;
            return nodes.leastDifference(designA.nexts[latch], designB.nexts[latch]);
        }
        throw new IndexOutOfBoundsException("no such output or next of both sides");
    }

    public void reset() {
        backToStarts();
    }

    public int step(int inputs) {
        designA.runStep(nodes, inputs, latchCount);
        designB.runStep(nodes, inputs, latchCount);
        if (apartStep == NONE && showApart()) {
            apartStep = steps;
        }
        steps++;
        return steps;
    }

    public int out(int side, int output) throws IndexOutOfBoundsException {
        needSide(side);
        Design design = designOf(side);
        if (output < 0 || output >= design.outputCount) {
            throw new IndexOutOfBoundsException("no such output");
        }
        return output < design.shownCount ? design.shown[output] : NONE;
    }

    public int state(int side, int latch) throws IndexOutOfBoundsException {
        needSide(side);
        needLatch(latch);
        return (designOf(side).states >> latch) & 1;
    }

    public int apart() {
        return apartStep;
    }

    public int count(int what) throws IndexOutOfBoundsException {
        switch (what) {
            case 0:
                return nodes.count;
            case 1:
                return inputCount;
            case 2:
                return latchCount;
            case 3:
            case 4:
                return nodes.countAnds(what - 3);
            case 5:
                return designA.outputCount;
            case 6:
                return designB.outputCount;
            default:
                throw new IndexOutOfBoundsException("no such what");
        }
    }

    public void clear() {
        nodes.forget();
        designA.forget();
        designB.forget();
        inputCount = 0;
        latchCount = 0;
        backToStarts();
    }

    private void needSide(int side) {
        if (side != 0 && side != 1) {
            throw new IndexOutOfBoundsException("no such side");
        }
    }

    private void needLiteral(int literal) {
        if (literal < 0 || literal >= 2 * nodes.count) {
            throw new IndexOutOfBoundsException("no such literal");
        }
    }

    private void needLatch(int latch) {
        if (latch < 0 || latch >= latchCount) {
            throw new IndexOutOfBoundsException("no such latch");
        }
    }

    private void needStart(int start) {
        if (start != 0 && start != 1) {
            throw new IllegalArgumentException("a start is neither 0 nor 1");
        }
    }

    private void needRoomForNode() {
        if (nodes.count == Nodes.MOST) {
            throw new IllegalStateException("there are 400 nodes");
        }
    }

    private void needOwn(int side, int literal) {
        if (nodes.isOfOtherSide(side, literal)) {
            throw new IllegalArgumentException("a literal is of an AND of the other side");
        }
    }

    private Design designOf(int side) {
        return side == 0 ? designA : designB;
    }

    private void backToStarts() {
        designA.backToStarts();
        designB.backToStarts();
        steps = 0;
        apartStep = NONE;
    }

    private int sharedOutputs() {
        return Math.min(designA.outputCount, designB.outputCount);
    }

    private int countDifferent(int[] literalsA, int[] literalsB, int length) {
        int found = 0;
        for (int i = 0; i < length; i++) {
            if (!nodes.areSame(literalsA[i], literalsB[i])) {
                found++;
            }
        }
        return found;
    }

    private int placeOfDifferent(int[] literalsA, int[] literalsB, int length, int k) {
        int left = k;
        for (int i = 0; i < length; i++) {
            if (!nodes.areSame(literalsA[i], literalsB[i])) {
                if (left == 0) {
                    return i;
                }
                left--;
            }
        }
        return NONE;
    }

    private int differentStartOrSize(int k) {
        int left = k;
        int different = designA.starts ^ designB.starts;
        for (int latch = 0; latch < latchCount; latch++) {
            if (((different >> latch) & 1) == 1) {
                if (left == 0) {
                    return START_THINGS + latch;
                }
                left--;
            }
        }
        return left == 0 && designA.outputCount != designB.outputCount ? HOW_MANY_THING : NONE;
    }

    private boolean showApart() {
        int shared = Math.min(designA.shownCount, designB.shownCount);
        for (int i = 0; i < shared; i++) {
            if (designA.shown[i] != designB.shown[i]) {
                return true;
            }
        }
        return false;
    }

    /**
     * The nodes and their functions, each a row of 4096 bits: one for every assignment of all twelve variables.
     * A variable that is not there yet never matters, so a row and the first of a node stay true as more nodes come.
     */
    private static final class Nodes {
        static final int MOST = 400;
        static final int VARIABLES = 12;

        private static final int BOTH_SIDES = -1;
        private static final int WORDS = 64;
        private static final int WORD_BITS = 64;
        private static final int WORD_VARIABLES = 6;
        private static final int ASSIGNMENT_MASK = (1 << VARIABLES) - 1;
        private static final int NODES_AT_FIRST = 32;
        private static final long MARK_FACTOR = 0x9E3779B97F4A7C15L;
        private static final long[] WORD_PATTERNS = {
            0xAAAAAAAAAAAAAAAAL, 0xCCCCCCCCCCCCCCCCL, 0xF0F0F0F0F0F0F0F0L,
            0xFF00FF00FF00FF00L, 0xFFFF0000FFFF0000L, 0xFFFFFFFF00000000L
        };

        int count;
        private final int[] owners;
        private final int[] firsts;
        private final long[] marks;
        private long[] rows;

        Nodes() {
            count = 1;
            owners = new int[MOST];
            owners[0] = BOTH_SIDES;
            firsts = new int[MOST];
            marks = new long[MOST];
            rows = new long[NODES_AT_FIRST * WORDS];
        }

        void forget() {
            count = 1;
        }

        int addVariable(int bit) {
            growRows();
            int start = count * WORDS;
            for (int w = 0; w < WORDS; w++) {
                rows[start + w] = variableWord(bit, w);
            }
            return settle(BOTH_SIDES);
        }

        int addAnd(int side, int a, int b) {
            growRows();
            int start = count * WORDS;
            for (int w = 0; w < WORDS; w++) {
                rows[start + w] = wordOf(a, w) & wordOf(b, w);
            }
            return settle(side);
        }

        boolean isOfOtherSide(int side, int literal) {
            int owner = owners[literal >> 1];
            return owner != BOTH_SIDES && owner != side;
        }

        int firstOf(int literal) {
            return firsts[literal >> 1] ^ (literal & 1);
        }

        boolean areSame(int a, int b) {
            return firstOf(a) == firstOf(b);
        }

        int countClasses() {
            int found = 0;
            for (int node = 0; node < count; node++) {
                if (isLeast(node)) {
                    found++;
                }
            }
            return found;
        }

        int countMerged(int side) {
            int found = 0;
            for (int node = 0; node < count; node++) {
                if (owners[node] == side && !isLeast(node)) {
                    found++;
                }
            }
            return found;
        }

        int countAnds(int side) {
            int found = 0;
            for (int node = 0; node < count; node++) {
                if (owners[node] == side) {
                    found++;
                }
            }
            return found;
        }

        int countOnes(int literal) {
            int found = 0;
            for (int w = 0; w < WORDS; w++) {
                found += Long.bitCount(wordOf(literal, w));
            }
            return found;
        }

        int valueIn(int literal, int assignment) {
            int place = assignment & ASSIGNMENT_MASK;
            return (int) (wordOf(literal, place / WORD_BITS) >>> (place % WORD_BITS)) & 1;
        }

        int supportOf(int literal) {
            int support = 0;
            for (int bit = 0; bit < VARIABLES; bit++) {
                if (hangsOn(literal, bit)) {
                    support |= 1 << bit;
                }
            }
            return support;
        }

        int leastDifference(int a, int b) {
            for (int w = 0; w < WORDS; w++) {
                long different = wordOf(a, w) ^ wordOf(b, w);
                if (different != 0) {
                    return w * WORD_BITS + Long.numberOfTrailingZeros(different);
                }
            }
            return NONE;
        }

        // Rows grow by doubling so that an object with few nodes takes little of the room.
        private void growRows() {
            if ((count + 1) * WORDS > rows.length) {
                rows = Arrays.copyOf(rows, Math.min(2 * rows.length, MOST * WORDS));
            }
        }

        private int settle(int owner) {
            int node = count;
            owners[node] = owner;
            marks[node] = markOf(node);
            firsts[node] = findFirst(node);
            count++;
            return 2 * node;
        }

        private int findFirst(int node) {
            int literal = 2 * node;
            int atZero = valueIn(literal, 0);
            for (int lesser = 0; lesser < node; lesser++) {
                if (marks[lesser] == marks[node]) {
                    // Only the literal that agrees in assignment 0 can be the same.
                    int candidate = 2 * lesser + (valueIn(2 * lesser, 0) ^ atZero);
                    if (leastDifference(candidate, literal) == NONE) {
                        return candidate;
                    }
                }
            }
            return literal;
        }

        // Nodes of one class have one mark, so that most other nodes are passed by without a look at their rows.
        // FALSE has mark 0, which is there from the start.
        private long markOf(int node) {
            int start = node * WORDS;
            long turn = -(rows[start] & 1);
            long mark = 0;
            for (int w = 0; w < WORDS; w++) {
                mark = (mark ^ rows[start + w] ^ turn) * MARK_FACTOR;
                mark ^= mark >>> 32;
            }
            return mark;
        }

        private boolean isLeast(int node) {
            return firsts[node] == 2 * node;
        }

        private boolean hangsOn(int literal, int bit) {
            for (int w = 0; w < WORDS; w++) {
                if (wordHangsOn(literal, bit, w)) {
                    return true;
                }
            }
            return false;
        }

        private boolean wordHangsOn(int literal, int bit, int w) {
            long word = wordOf(literal, w);
            if (bit >= WORD_VARIABLES) {
                return word != wordOf(literal, w ^ (1 << (bit - WORD_VARIABLES)));
            }
            long moved = word >>> (1 << bit);
            return ((word ^ moved) & ~WORD_PATTERNS[bit]) != 0;
        }

        private long wordOf(int literal, int w) {
            long word = rows[(literal >> 1) * WORDS + w];
            return (literal & 1) == 1 ? ~word : word;
        }

        private static long variableWord(int bit, int w) {
            if (bit < WORD_VARIABLES) {
                return WORD_PATTERNS[bit];
            }
            return ((w >> (bit - WORD_VARIABLES)) & 1) == 1 ? -1L : 0L;
        }
    }

    /** One side's outputs and latches; starts and states hold latch k in bit k. */
    private static final class Design {
        final int[] outputs;
        final int[] nexts;
        final int[] shown;
        int outputCount;
        int shownCount;
        int starts;
        int states;

        Design() {
            outputs = new int[MOST_OUTPUTS];
            nexts = new int[MOST_LATCHES];
            shown = new int[MOST_OUTPUTS];
        }

        void forget() {
            outputCount = 0;
            starts = 0;
        }

        void addLatch(int latch, int start, int literal) {
            starts |= start << latch;
            nexts[latch] = literal;
        }

        int addOutput(int literal) {
            outputs[outputCount] = literal;
            outputCount++;
            return outputCount - 1;
        }

        void backToStarts() {
            states = starts;
            shownCount = 0;
        }

        void runStep(Nodes nodes, int inputs, int latches) {
            // Bits beyond the inputs must not be taken for latches.
            int assignment = (inputs & INPUT_MASK) | (states << FIRST_LATCH_BIT);
            for (int i = 0; i < outputCount; i++) {
                shown[i] = nodes.valueIn(outputs[i], assignment);
            }
            shownCount = outputCount;
            int after = 0;
            for (int latch = 0; latch < latches; latch++) {
                after |= nodes.valueIn(nexts[latch], assignment) << latch;
            }
            states = after;
        }
    }
}

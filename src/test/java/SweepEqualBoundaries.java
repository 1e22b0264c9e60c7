/**
 * One test for each boundary case that a sentence of the document names; a test tells its promise and its case.
 * No object is used for more than 512 calls, since what later calls answer is free.
 */
public final class SweepEqualBoundaries {
    private static final String BOUNDS = "IndexOutOfBoundsException";
    private static final String STATE = "IllegalStateException";
    private static final String ARGUMENT = "IllegalArgumentException";
    private static final int NONE = -1;
    private static final int LEAST = Integer.MIN_VALUE;
    private static final int GREATEST = Integer.MAX_VALUE;
    private static final int MOST_NODES = 400;
    private static final int[] NO_SIDES = {-1, 2, LEAST, GREATEST};

    private static int tests = 0;
    private static int failed = 0;
    private static int wrongAnswers = 0;
    private static String current = "";

    private interface Call {
        Object make();
    }

    private interface Body {
        void run();
    }

    private interface Maker {
        SweepEqual make();
    }

    private interface CallOn {
        Object make(SweepEqual x);
    }

    private static void test(int promise, String boundary, Body body) {
        tests++;
        current = "promise " + promise + ", " + boundary;
        int before = wrongAnswers;
        try {
            body.run();
        } catch (RuntimeException e) {
            wrong("threw " + e);
        }
        if (wrongAnswers != before) {
            failed++;
        }
    }

    private static void wrong(String text) {
        wrongAnswers++;
        System.out.println(current + ": " + text);
    }

    private static Object told(Call call) {
        try {
            return call.make();
        } catch (RuntimeException e) {
            return e.getClass().getSimpleName();
        }
    }

    private static void due(Object want, Call call) {
        Object got = told(call);
        if (!want.equals(got)) {
            wrong("answered " + got + ", due is " + want);
        }
    }

    /** An object with these inputs and, behind them, these latches; all starts are 0. */
    private static SweepEqual with(int inputs, int latches) {
        SweepEqual x = new SweepEqual();
        for (int k = 0; k < inputs; k++) {
            x.input();
        }
        for (int k = 0; k < latches; k++) {
            x.latch(0, 0);
        }
        return x;
    }

    /** ANDs of both sides in turn, node 2n of side 0, until there are as many nodes. */
    private static SweepEqual filled(SweepEqual x, int nodes) {
        for (int node = x.count(0); node < nodes; node++) {
            x.and(node & 1, 0, 0);
        }
        return x;
    }

    private static void outputs(SweepEqual x, int side, int literal, int many) {
        for (int k = 0; k < many; k++) {
            x.output(side, literal);
        }
    }

    /** Everything at its most: 8 inputs, 4 latches, 400 nodes, 16 outputs a side; after 431 calls. */
    private static SweepEqual fullOfAll() {
        SweepEqual x = with(8, 4);
        for (int node = 13; node < MOST_NODES; node++) {
            x.and(node & 1, 2, 24);
        }
        outputs(x, 0, 2, 16);
        outputs(x, 1, 3, 16);
        return x;
    }

    public static void main(String[] args) {
        nodeZeroAlone(1, SweepEqual::new);
        clears();
        inputs();
        latches();
        latchesAsReset();
        ands();
        andsThrownFirst();
        outputs();
        outputsThrownFirst();
        nexts();
        refusedCallsChangeNothing();
        sames();
        firsts();
        classes();
        merged();
        hangs();
        ones();
        values();
        differs();
        differsOneThing();
        witnesses();
        witnessesOfNoThing();
        resets();
        steps();
        outs();
        states();
        aparts();
        counts();
        lastCalls();
        lastCallsOfAFullObject();
        System.out.println((tests - failed) + " of " + tests + " boundary tests hold");
        if (failed != 0) {
            System.exit(1);
        }
    }

    // ---- promises 1 and 22: node 0 alone ----

    /** What every method answers with node 0 alone; each test makes an object anew. */
    private static void nodeZeroAlone(int promise, Maker maker) {
        nodeZeroAloneBuilds(promise, maker);
        nodeZeroAloneTells(promise, maker);
        nodeZeroAloneIsClocked(promise, maker);
    }

    private static void nodeZeroAloneBuilds(int promise, Maker maker) {
        test(promise, "node 0 alone: input", () -> {
            SweepEqual x = maker.make();
            due(2, x::input);
            due(1, () -> x.count(1));
            due(1, () -> x.hangs(2));
            due(2, x::classes);
        });
        test(promise, "node 0 alone: latch", () -> {
            SweepEqual x = maker.make();
            due(2, () -> x.latch(1, 0));
            due(1, () -> x.state(0, 0));
            due(0, () -> x.state(1, 0));
            due(256, () -> x.hangs(2));
            due(2, () -> x.next(0, 0, 0));
            due(2, () -> x.next(1, 0, 0));
        });
        test(promise, "node 0 alone: latch with the other starts", () -> {
            SweepEqual x = maker.make();
            due(2, () -> x.latch(0, 1));
            due(0, () -> x.state(0, 0));
            due(1, () -> x.state(1, 0));
        });
        test(promise, "node 0 alone: and", () -> {
            SweepEqual x = maker.make();
            due(BOUNDS, () -> x.and(0, 2, 0));
            due(2, () -> x.and(0, 0, 0));
            due(4, () -> x.and(1, 1, 1));
            due(0, () -> x.first(2));
            due(1, () -> x.first(4));
            due(1, x::classes);
        });
        test(promise, "node 0 alone: output", () -> {
            SweepEqual x = maker.make();
            due(BOUNDS, () -> x.output(0, 2));
            due(0, () -> x.output(0, 0));
            due(0, () -> x.output(1, 1));
            due(NONE, () -> x.out(0, 0));
            due(NONE, () -> x.out(1, 0));
            due(0, () -> x.witness(0));
        });
        test(promise, "node 0 alone: next", () -> {
            SweepEqual x = maker.make();
            due(BOUNDS, () -> x.next(0, 0, 0));
            due(BOUNDS, () -> x.next(1, 0, 1));
        });
    }

    private static void nodeZeroAloneTells(int promise, Maker maker) {
        test(promise, "node 0 alone: same", () -> {
            SweepEqual x = maker.make();
            due(true, () -> x.same(0, 0));
            due(true, () -> x.same(1, 1));
            due(false, () -> x.same(0, 1));
            due(BOUNDS, () -> x.same(0, 2));
            due(BOUNDS, () -> x.same(2, 0));
        });
        test(promise, "node 0 alone: first", () -> {
            SweepEqual x = maker.make();
            due(0, () -> x.first(0));
            due(1, () -> x.first(1));
            due(BOUNDS, () -> x.first(2));
        });
        test(promise, "node 0 alone: classes and merged", () -> {
            SweepEqual x = maker.make();
            due(1, x::classes);
            due(0, () -> x.merged(0));
            due(0, () -> x.merged(1));
        });
        test(promise, "node 0 alone: hangs, ones and value", () -> {
            SweepEqual x = maker.make();
            due(0, () -> x.hangs(0));
            due(0, () -> x.hangs(1));
            due(0, () -> x.ones(0));
            due(1, () -> x.ones(1));
            due(0, () -> x.value(0, -1));
            due(1, () -> x.value(1, -1));
            due(BOUNDS, () -> x.hangs(2));
            due(BOUNDS, () -> x.ones(2));
            due(BOUNDS, () -> x.value(2, 0));
        });
        test(promise, "node 0 alone: differs and witness", () -> {
            SweepEqual x = maker.make();
            due(NONE, () -> x.differs(0));
            due(BOUNDS, () -> x.differs(-1));
            for (int thing : new int[] {0, 100, 200, 300}) {
                due(BOUNDS, () -> x.witness(thing));
            }
        });
        test(promise, "node 0 alone: count", () -> {
            SweepEqual x = maker.make();
            due(1, () -> x.count(0));
            for (int k = 1; k <= 6; k++) {
                int what = k;
                due(0, () -> x.count(what));
            }
        });
    }

    private static void nodeZeroAloneIsClocked(int promise, Maker maker) {
        test(promise, "node 0 alone: out, state and apart", () -> {
            SweepEqual x = maker.make();
            due(BOUNDS, () -> x.out(0, 0));
            due(BOUNDS, () -> x.out(1, 0));
            due(BOUNDS, () -> x.state(0, 0));
            due(BOUNDS, () -> x.state(1, 0));
            due(NONE, x::apart);
        });
        test(promise, "node 0 alone: step and reset", () -> {
            SweepEqual x = maker.make();
            due(1, () -> x.step(-1));
            due(2, () -> x.step(0));
            due(NONE, x::apart);
            x.reset();
            due(1, () -> x.step(GREATEST));
            due(BOUNDS, () -> x.out(0, 0));
        });
    }

    private static SweepEqual clearedBehindManyCalls() {
        SweepEqual x = new SweepEqual();
        x.input();
        x.latch(1, 1);
        x.and(0, 2, 4);
        x.and(1, 3, 5);
        x.output(0, 6);
        x.output(1, 9);
        x.next(0, 0, 7);
        x.next(1, 0, 3);
        for (int k = 0; k < 400; k++) {
            x.step(k);
        }
        x.clear();
        return x;
    }

    private static SweepEqual clearedWhenFull() {
        SweepEqual x = fullOfAll();
        x.step(1);
        x.clear();
        return x;
    }

    private static void clears() {
        nodeZeroAlone(22, () -> {
            SweepEqual x = new SweepEqual();
            x.clear();
            return x;
        });
        nodeZeroAlone(22, SweepEqualBoundaries::clearedBehindManyCalls);
        nodeZeroAlone(22, SweepEqualBoundaries::clearedWhenFull);
        nodeZeroAlone(22, () -> {
            SweepEqual x = clearedBehindManyCalls();
            x.clear();
            return x;
        });
        test(22, "room for 8 inputs again", () -> {
            SweepEqual x = with(8, 0);
            x.clear();
            for (int k = 0; k < 8; k++) {
                int input = k;
                due(2 * k + 2, x::input);
                due(1 << k, () -> x.hangs(2 * input + 2));
            }
            due(STATE, x::input);
        });
        test(22, "room for 4 latches again, with starts and nexts of their own", () -> {
            SweepEqual x = new SweepEqual();
            for (int k = 0; k < 4; k++) {
                x.latch(1, 1);
                x.next(0, k, 1);
                x.next(1, k, 1);
            }
            x.clear();
            for (int k = 0; k < 4; k++) {
                int latch = k;
                due(2 * k + 2, () -> x.latch(0, 0));
                due(0, () -> x.state(0, latch));
                due(0, () -> x.state(1, latch));
                due(2 * k + 2, () -> x.next(0, latch, 0));
                due(2 * k + 2, () -> x.next(1, latch, 0));
            }
            due(STATE, () -> x.latch(0, 0));
        });
        test(22, "room for 16 outputs of a side again", () -> {
            SweepEqual x = new SweepEqual();
            outputs(x, 0, 0, 16);
            outputs(x, 1, 1, 16);
            x.step(0);
            x.clear();
            for (int k = 0; k < 16; k++) {
                int output = k;
                due(k, () -> x.output(0, 1));
                due(k, () -> x.output(1, 0));
                due(NONE, () -> x.out(0, output));
            }
            due(STATE, () -> x.output(0, 0));
            due(STATE, () -> x.output(1, 0));
        });
        test(22, "room for 400 nodes again", () -> {
            SweepEqual x = filled(new SweepEqual(), 100);
            x.clear();
            filled(x, MOST_NODES);
            due(MOST_NODES, () -> x.count(0));
            due(STATE, () -> x.and(0, 0, 0));
        });
        test(22, "an AND where one of the other side was is of its own side", () -> {
            SweepEqual x = new SweepEqual();
            x.and(0, 0, 0);
            x.clear();
            x.and(1, 1, 1);
            due(ARGUMENT, () -> x.output(0, 2));
            due(0, () -> x.output(1, 2));
            due(1, () -> x.first(2));
        });
        test(22, "an input where an AND was is for both sides", () -> {
            SweepEqual x = new SweepEqual();
            x.and(0, 0, 0);
            x.clear();
            x.input();
            due(0, () -> x.output(1, 2));
            due(0, () -> x.merged(0));
            due(2, () -> x.first(2));
        });
    }

    // ---- promise 2: input ----

    private static void inputs() {
        test(2, "the last input that there may be, the eighth", () -> {
            SweepEqual x = with(7, 0);
            due(16, x::input);
            due(8, () -> x.count(1));
            due(128, () -> x.hangs(16));
            due(1, () -> x.value(16, 128));
        });
        test(2, "the ninth input", () -> {
            SweepEqual x = with(8, 0);
            due(STATE, x::input);
            due(STATE, x::input);
            due(8, () -> x.count(1));
            due(9, () -> x.count(0));
        });
        test(2, "the ninth input behind 4 latches", () -> {
            SweepEqual x = with(8, 4);
            due(STATE, x::input);
        });
        test(2, "an input that is the last node", () -> {
            SweepEqual x = filled(new SweepEqual(), MOST_NODES - 1);
            due(798, x::input);
            due(1, () -> x.hangs(798));
            due(798, () -> x.first(798));
            due(MOST_NODES, () -> x.count(0));
        });
        test(2, "an input when there are 400 nodes", () -> {
            SweepEqual x = filled(with(7, 0), MOST_NODES);
            due(STATE, x::input);
            due(7, () -> x.count(1));
        });
        test(2, "an input when there are 8 and 400 nodes", () -> {
            SweepEqual x = filled(with(8, 0), MOST_NODES);
            due(STATE, x::input);
        });
        test(2, "inputs and latches in turn keep their own bits", () -> {
            SweepEqual x = new SweepEqual();
            for (int k = 0; k < 4; k++) {
                due(4 * k + 2, () -> x.latch(0, 0));
                due(4 * k + 4, x::input);
            }
            for (int k = 0; k < 4; k++) {
                int at = 4 * k;
                due(256 << k, () -> x.hangs(at + 2));
                due(1 << k, () -> x.hangs(at + 4));
            }
        });
        test(2, "an input is no reset", () -> {
            SweepEqual x = clockedApart();
            x.input();
            dueClockedApart(x);
        });
    }

    /** One step made: state of side 0 is 1 where its start is 0, output 0 was 0 and 1, apart in step 0. */
    private static SweepEqual clockedApart() {
        SweepEqual x = new SweepEqual();
        x.latch(0, 1);
        x.output(0, 2);
        x.output(1, 2);
        x.next(0, 0, 3);
        x.step(0);
        return x;
    }

    private static void dueClockedApart(SweepEqual x) {
        due(1, () -> x.state(0, 0));
        due(1, () -> x.state(1, 0));
        due(0, () -> x.out(0, 0));
        due(1, () -> x.out(1, 0));
        due(0, x::apart);
        due(2, () -> x.step(0));
    }

    private static void dueSetBack(SweepEqual x) {
        due(0, () -> x.state(0, 0));
        due(1, () -> x.state(1, 0));
        due(NONE, () -> x.out(0, 0));
        due(NONE, () -> x.out(1, 0));
        due(NONE, x::apart);
        due(1, () -> x.step(0));
    }

    // ---- promise 3: latch ----

    private static void latches() {
        test(3, "the last latch that there may be, the fourth", () -> {
            SweepEqual x = with(0, 3);
            due(8, () -> x.latch(1, 0));
            due(4, () -> x.count(2));
            due(2048, () -> x.hangs(8));
            due(1, () -> x.state(0, 3));
            due(0, () -> x.state(1, 3));
            due(8, () -> x.next(0, 3, 0));
            due(8, () -> x.next(1, 3, 0));
        });
        test(3, "the fifth latch", () -> {
            SweepEqual x = with(0, 4);
            due(STATE, () -> x.latch(0, 0));
            due(4, () -> x.count(2));
            due(5, () -> x.count(0));
        });
        test(3, "the fifth latch behind 8 inputs", () -> {
            SweepEqual x = with(8, 4);
            due(STATE, () -> x.latch(0, 0));
        });
        test(3, "a latch that is the last node", () -> {
            SweepEqual x = filled(new SweepEqual(), MOST_NODES - 1);
            due(798, () -> x.latch(0, 1));
            due(256, () -> x.hangs(798));
            due(798, () -> x.next(1, 0, 799));
            due(STATE, () -> x.latch(0, 0));
        });
        test(3, "a latch when there are 400 nodes", () -> {
            SweepEqual x = filled(with(0, 3), MOST_NODES);
            due(STATE, () -> x.latch(0, 0));
            due(3, () -> x.count(2));
        });
        test(3, "a start of side 0 that is neither 0 nor 1", () -> {
            for (int start : new int[] {-1, 2, LEAST, GREATEST}) {
                SweepEqual x = new SweepEqual();
                due(ARGUMENT, () -> x.latch(start, 0));
                due(0, () -> x.count(2));
            }
        });
        test(3, "a start of side 1 that is neither 0 nor 1", () -> {
            for (int start : new int[] {-1, 2, LEAST, GREATEST}) {
                SweepEqual x = new SweepEqual();
                due(ARGUMENT, () -> x.latch(1, start));
                due(0, () -> x.count(2));
            }
        });
        test(3, "both starts are neither", () -> due(ARGUMENT, () -> new SweepEqual().latch(-1, 2)));
        test(3, "a wrong start is told when it would be the last latch", () -> {
            SweepEqual x = with(0, 3);
            due(ARGUMENT, () -> x.latch(2, 0));
            due(8, () -> x.latch(0, 0));
        });
        test(3, "there are 4 and a start is wrong: the one named first", () -> {
            SweepEqual x = with(0, 4);
            due(STATE, () -> x.latch(2, 0));
            due(STATE, () -> x.latch(0, -1));
        });
        test(3, "there are 400 nodes and a start is wrong: the one named first", () -> {
            SweepEqual x = filled(new SweepEqual(), MOST_NODES);
            due(STATE, () -> x.latch(2, 0));
            due(STATE, () -> x.latch(0, -1));
        });
        test(3, "all four starts of two sides", () -> {
            SweepEqual x = new SweepEqual();
            for (int k = 0; k < 4; k++) {
                x.latch(k & 1, k >> 1);
            }
            for (int k = 0; k < 4; k++) {
                int latch = k;
                due(k & 1, () -> x.state(0, latch));
                due(k >> 1, () -> x.state(1, latch));
            }
        });
    }

    private static void latchesAsReset() {
        test(3, "a latch as reset", () -> {
            SweepEqual x = clockedApart();
            x.latch(0, 0);
            dueSetBack(x);
        });
        test(3, "a refused latch is no reset: a wrong start", () -> {
            SweepEqual x = clockedApart();
            due(ARGUMENT, () -> x.latch(0, 2));
            due(ARGUMENT, () -> x.latch(-1, 0));
            dueClockedApart(x);
        });
        test(3, "a refused latch is no reset: there are 4", () -> {
            SweepEqual x = new SweepEqual();
            for (int k = 0; k < 4; k++) {
                x.latch(0, 1);
            }
            x.output(0, 2);
            x.output(1, 2);
            x.next(0, 0, 3);
            x.step(0);
            due(STATE, () -> x.latch(0, 0));
            dueClockedApart(x);
        });
        test(3, "a refused latch is no reset: there are 400 nodes", () -> {
            SweepEqual x = filled(clockedApart(), MOST_NODES);
            due(STATE, () -> x.latch(0, 0));
            dueClockedApart(x);
        });
        test(3, "the latch itself starts anew though others were stepped", () -> {
            SweepEqual x = clockedApart();
            x.latch(1, 0);
            due(1, () -> x.state(0, 1));
            due(0, () -> x.state(1, 1));
        });
    }

    // ---- promise 4: and ----

    private static void ands() {
        test(4, "the last node that there may be", () -> {
            SweepEqual x = filled(with(1, 0), MOST_NODES - 1);
            due(798, () -> x.and(0, 2, 1));
            due(2, () -> x.first(798));
            due(3, () -> x.first(799));
        });
        test(4, "the node too many", () -> {
            SweepEqual x = filled(with(1, 0), MOST_NODES);
            due(STATE, () -> x.and(0, 2, 2));
            due(STATE, () -> x.and(1, 0, 0));
            due(MOST_NODES, () -> x.count(0));
            due(BOUNDS, () -> x.first(800));
        });
        test(4, "no such side", () -> {
            SweepEqual x = with(1, 0);
            for (int side : NO_SIDES) {
                due(BOUNDS, () -> x.and(side, 2, 2));
            }
            due(2, () -> x.count(0));
        });
        test(4, "a literal below 0", () -> {
            SweepEqual x = with(1, 0);
            for (int literal : new int[] {-1, -2, LEAST}) {
                due(BOUNDS, () -> x.and(0, literal, 2));
                due(BOUNDS, () -> x.and(0, 2, literal));
            }
        });
        test(4, "a literal one too large", () -> {
            SweepEqual x = with(1, 0);
            for (int literal : new int[] {4, 5, GREATEST}) {
                due(BOUNDS, () -> x.and(1, literal, 2));
                due(BOUNDS, () -> x.and(1, 2, literal));
            }
            due(2, () -> x.count(0));
        });
        test(4, "the largest literal that there is", () -> {
            SweepEqual x = with(1, 0);
            due(4, () -> x.and(0, 3, 3));
            due(6, () -> x.and(0, 5, 5));
            due(2, () -> x.first(6));
        });
        test(4, "FALSE and FALSE turned", () -> {
            SweepEqual x = with(1, 0);
            due(4, () -> x.and(0, 0, 2));
            due(6, () -> x.and(1, 2, 1));
            due(8, () -> x.and(0, 1, 1));
            due(10, () -> x.and(1, 0, 1));
            due(0, () -> x.first(4));
            due(2, () -> x.first(6));
            due(1, () -> x.first(8));
            due(0, () -> x.first(10));
        });
        test(4, "nodes for both sides: FALSE, an input, a latch", () -> {
            SweepEqual x = with(1, 1);
            due(6, () -> x.and(0, 2, 4));
            due(8, () -> x.and(1, 2, 4));
            due(10, () -> x.and(0, 1, 5));
            due(12, () -> x.and(1, 1, 5));
        });
        test(4, "an AND of the other side, as either literal, turned or not", () -> {
            SweepEqual x = with(1, 0);
            int of0 = x.and(0, 2, 2);
            int of1 = x.and(1, 2, 2);
            for (int turned = 0; turned < 2; turned++) {
                int turn = turned;
                due(ARGUMENT, () -> x.and(0, of1 + turn, 2));
                due(ARGUMENT, () -> x.and(0, of0, of1 + turn));
                due(ARGUMENT, () -> x.and(1, of0 + turn, of1));
                due(ARGUMENT, () -> x.and(1, 2, of0 + turn));
                due(ARGUMENT, () -> x.and(1, of0, of0 + turn));
            }
            due(4, () -> x.count(0));
        });
        test(4, "an AND of its own side", () -> {
            SweepEqual x = with(1, 0);
            int of0 = x.and(0, 2, 2);
            int of1 = x.and(1, 2, 2);
            due(8, () -> x.and(0, of0, of0 + 1));
            due(10, () -> x.and(1, of1 + 1, of1));
        });
        test(4, "an AND is no reset", () -> {
            SweepEqual x = clockedApart();
            x.and(0, 2, 3);
            dueClockedApart(x);
        });
        test(4, "an AND that comes behind a step is told in the next one", () -> {
            SweepEqual x = with(1, 1);
            x.step(1);
            int gate = x.and(1, 2, 5);
            x.output(1, gate);
            due(2, () -> x.step(1));
            due(1, () -> x.out(1, 0));
        });
    }

    private static void andsThrownFirst() {
        test(4, "no such side and an AND of the other side: bounds first", () -> {
            SweepEqual x = filled(new SweepEqual(), 3);
            due(BOUNDS, () -> x.and(2, 2, 4));
            due(BOUNDS, () -> x.and(-1, 2, 4));
        });
        test(4, "no such literal and an AND of the other side: bounds first", () -> {
            SweepEqual x = filled(new SweepEqual(), 3);
            due(ARGUMENT, () -> x.and(0, 2, 0));
            due(BOUNDS, () -> x.and(0, 2, 6));
            due(BOUNDS, () -> x.and(0, -1, 2));
        });
        test(4, "400 nodes and no such side or literal: bounds first", () -> {
            SweepEqual x = filled(new SweepEqual(), MOST_NODES);
            due(BOUNDS, () -> x.and(2, 0, 0));
            due(BOUNDS, () -> x.and(0, 800, 0));
            due(BOUNDS, () -> x.and(0, 0, -1));
        });
        test(4, "400 nodes and an AND of the other side: state first", () -> {
            SweepEqual x = filled(new SweepEqual(), MOST_NODES);
            due(STATE, () -> x.and(0, 2, 0));
            due(STATE, () -> x.and(1, 0, 4));
        });
        test(4, "all three at once: bounds first", () -> {
            SweepEqual x = filled(new SweepEqual(), MOST_NODES);
            due(BOUNDS, () -> x.and(0, 2, 800));
        });
    }

    // ---- promise 5: output ----

    private static void outputs() {
        test(5, "the last output that there may be, the sixteenth", () -> {
            SweepEqual x = with(1, 0);
            outputs(x, 0, 2, 15);
            due(15, () -> x.output(0, 3));
            due(16, () -> x.count(5));
            x.step(0);
            due(1, () -> x.out(0, 15));
        });
        test(5, "the seventeenth output", () -> {
            SweepEqual x = with(1, 0);
            outputs(x, 0, 2, 16);
            due(STATE, () -> x.output(0, 2));
            due(16, () -> x.count(5));
            due(BOUNDS, () -> x.out(0, 16));
        });
        test(5, "each side has 16 of its own", () -> {
            SweepEqual x = with(1, 0);
            outputs(x, 1, 2, 16);
            due(STATE, () -> x.output(1, 2));
            due(0, () -> x.output(0, 2));
            outputs(x, 0, 2, 15);
            due(STATE, () -> x.output(0, 2));
            due(16, () -> x.count(6));
        });
        test(5, "an output when there are 400 nodes, of the last one", () -> {
            SweepEqual x = filled(new SweepEqual(), MOST_NODES);
            due(0, () -> x.output(1, 799));
            due(BOUNDS, () -> x.output(1, 800));
        });
        test(5, "no such side", () -> {
            SweepEqual x = with(1, 0);
            for (int side : NO_SIDES) {
                due(BOUNDS, () -> x.output(side, 2));
            }
        });
        test(5, "no such literal, below 0 and too large", () -> {
            SweepEqual x = with(1, 0);
            for (int literal : new int[] {-1, LEAST, 4, GREATEST}) {
                due(BOUNDS, () -> x.output(0, literal));
                due(BOUNDS, () -> x.output(1, literal));
            }
            due(0, () -> x.count(5));
            due(0, () -> x.output(0, 3));
        });
        test(5, "FALSE and FALSE turned", () -> {
            SweepEqual x = new SweepEqual();
            due(0, () -> x.output(0, 0));
            due(1, () -> x.output(0, 1));
            x.step(0);
            due(0, () -> x.out(0, 0));
            due(1, () -> x.out(0, 1));
        });
        test(5, "an AND of the other side, turned or not", () -> {
            SweepEqual x = filled(new SweepEqual(), 3);
            due(ARGUMENT, () -> x.output(0, 2));
            due(ARGUMENT, () -> x.output(0, 3));
            due(ARGUMENT, () -> x.output(1, 4));
            due(ARGUMENT, () -> x.output(1, 5));
            due(0, () -> x.output(0, 5));
            due(0, () -> x.output(1, 3));
        });
        test(5, "an output is no reset", () -> {
            SweepEqual x = clockedApart();
            x.output(0, 2);
            dueClockedApart(x);
        });
    }

    private static void outputsThrownFirst() {
        test(5, "16 outputs and no such side or literal: bounds first", () -> {
            SweepEqual x = new SweepEqual();
            outputs(x, 0, 0, 16);
            outputs(x, 1, 0, 16);
            due(BOUNDS, () -> x.output(2, 0));
            due(BOUNDS, () -> x.output(-1, 0));
            due(BOUNDS, () -> x.output(0, 2));
            due(BOUNDS, () -> x.output(1, -1));
        });
        test(5, "16 outputs and an AND of the other side: state first", () -> {
            SweepEqual x = filled(new SweepEqual(), 3);
            outputs(x, 0, 0, 16);
            outputs(x, 1, 0, 16);
            due(STATE, () -> x.output(0, 2));
            due(STATE, () -> x.output(1, 4));
        });
        test(5, "no such side and an AND of a side: bounds first", () -> {
            SweepEqual x = filled(new SweepEqual(), 3);
            due(BOUNDS, () -> x.output(2, 2));
            due(BOUNDS, () -> x.output(-1, 4));
        });
    }

    // ---- promise 6: next ----

    private static void nexts() {
        test(6, "a latch's next is itself at first, for each side", () -> {
            SweepEqual x = with(2, 4);
            for (int k = 0; k < 4; k++) {
                int latch = k;
                due(2 * k + 6, () -> x.next(0, latch, 2));
                due(2 * k + 6, () -> x.next(1, latch, 3));
                due(2, () -> x.next(0, latch, 2));
                due(3, () -> x.next(1, latch, 3));
            }
        });
        test(6, "no such latch, below 0 and too large", () -> {
            SweepEqual x = with(0, 2);
            for (int latch : new int[] {-1, LEAST, 2, 3, 4, GREATEST}) {
                due(BOUNDS, () -> x.next(0, latch, 0));
                due(BOUNDS, () -> x.next(1, latch, 0));
            }
            due(4, () -> x.next(0, 1, 0));
        });
        test(6, "the last latch that there may be, and the one behind it", () -> {
            SweepEqual x = with(0, 4);
            due(8, () -> x.next(0, 3, 1));
            due(BOUNDS, () -> x.next(0, 4, 1));
        });
        test(6, "no such side", () -> {
            SweepEqual x = with(0, 1);
            for (int side : NO_SIDES) {
                due(BOUNDS, () -> x.next(side, 0, 0));
            }
            due(2, () -> x.next(0, 0, 0));
            due(2, () -> x.next(1, 0, 0));
        });
        test(6, "no such literal, below 0 and too large", () -> {
            SweepEqual x = with(0, 1);
            for (int literal : new int[] {-1, LEAST, 4, GREATEST}) {
                due(BOUNDS, () -> x.next(0, 0, literal));
            }
            due(2, () -> x.next(0, 0, 3));
            due(3, () -> x.next(0, 0, 2));
        });
        test(6, "FALSE and FALSE turned", () -> {
            SweepEqual x = with(0, 1);
            due(2, () -> x.next(0, 0, 1));
            x.step(0);
            due(1, () -> x.state(0, 0));
            due(1, () -> x.next(0, 0, 0));
            x.step(0);
            due(0, () -> x.state(0, 0));
        });
        test(6, "an AND of the other side, turned or not", () -> {
            SweepEqual x = filled(with(0, 1), 4);
            due(ARGUMENT, () -> x.next(1, 0, 4));
            due(ARGUMENT, () -> x.next(1, 0, 5));
            due(ARGUMENT, () -> x.next(0, 0, 6));
            due(ARGUMENT, () -> x.next(0, 0, 7));
            due(2, () -> x.next(0, 0, 5));
            due(2, () -> x.next(1, 0, 7));
        });
        test(6, "no such latch and an AND of the other side: bounds first", () -> {
            SweepEqual x = filled(with(0, 1), 4);
            due(BOUNDS, () -> x.next(1, 1, 4));
            due(BOUNDS, () -> x.next(0, -1, 6));
            due(BOUNDS, () -> x.next(2, 0, 4));
        });
        test(6, "a next when there are 400 nodes, of the last one", () -> {
            SweepEqual x = filled(with(0, 1), MOST_NODES);
            due(2, () -> x.next(1, 0, 799));
            due(799, () -> x.next(1, 0, 798));
        });
        test(6, "a next is no reset", () -> {
            SweepEqual x = clockedApart();
            x.next(1, 0, 0);
            dueClockedApart(x);
        });
    }

    // ---- "A call that throws changes nothing." ----

    /** A design with something of everything, behind two steps; nodes: 1 input, 2 latch, 3 of side 0, 4 of side 1. */
    private static SweepEqual small() {
        SweepEqual x = new SweepEqual();
        x.input();
        x.latch(0, 1);
        x.and(0, 2, 4);
        x.and(1, 3, 5);
        x.output(0, 6);
        x.output(1, 9);
        x.output(1, 2);
        x.next(0, 0, 7);
        x.next(1, 0, 8);
        x.step(1);
        x.step(0);
        return x;
    }

    /** All that can be told of an object with few nodes; ends with calls that show the nexts and the step count. */
    private static String picture(SweepEqual x) {
        StringBuilder text = new StringBuilder();
        for (int what = 0; what <= 6; what++) {
            text.append(x.count(what)).append(' ');
        }
        text.append(x.classes()).append(' ').append(x.merged(0)).append(' ').append(x.merged(1)).append(' ');
        for (int literal = 0; literal < 2 * x.count(0); literal++) {
            text.append(x.first(literal)).append(' ').append(x.hangs(literal)).append(' ').append(x.ones(literal));
            text.append(' ').append(x.value(literal, 257)).append(';');
        }
        for (int k = 0; k < 6; k++) {
            text.append(x.differs(k)).append(' ');
        }
        for (int side = 0; side < 2; side++) {
            for (int output = 0; output < x.count(5 + side); output++) {
                text.append(x.out(side, output)).append(' ');
            }
            for (int latch = 0; latch < x.count(2); latch++) {
                text.append(x.state(side, latch)).append(' ').append(x.next(side, latch, 2 * latch)).append(' ');
            }
        }
        return text.append(x.apart()).append(' ').append(x.step(1)).toString();
    }

    private static void refusedChangesNothing(int promise, String name, String thrown, CallOn call) {
        test(promise, "a call that throws changes nothing: " + name, () -> {
            SweepEqual x = small();
            due(thrown, () -> call.make(x));
            String want = picture(small());
            due(want, () -> picture(x));
        });
    }

    private static void fullRefusedChangesNothing(int promise, String name, CallOn call) {
        test(promise, "a call that throws changes nothing: " + name, () -> {
            SweepEqual x = fullOfAll();
            SweepEqual twin = fullOfAll();
            due(STATE, () -> call.make(x));
            for (int what = 0; what <= 6; what++) {
                int w = what;
                due(twin.count(what), () -> x.count(w));
            }
            due(twin.classes(), x::classes);
            due(twin.merged(0), () -> x.merged(0));
            due(twin.merged(1), () -> x.merged(1));
            due(twin.first(799), () -> x.first(799));
            due(twin.next(1, 3, 0), () -> x.next(1, 3, 0));
            due(twin.step(1), () -> x.step(1));
            due(twin.out(0, 15), () -> x.out(0, 15));
            due(twin.out(1, 15), () -> x.out(1, 15));
            due(BOUNDS, () -> x.out(0, 16));
        });
    }

    private static void refusedCallsChangeNothing() {
        refusedChangesNothing(3, "latch, a start of side 0", ARGUMENT, x -> x.latch(2, 1));
        refusedChangesNothing(3, "latch, a start of side 1", ARGUMENT, x -> x.latch(1, -1));
        refusedChangesNothing(4, "and, no such side", BOUNDS, x -> x.and(2, 2, 4));
        refusedChangesNothing(4, "and, no such literal", BOUNDS, x -> x.and(0, 2, 10));
        refusedChangesNothing(4, "and, of the other side", ARGUMENT, x -> x.and(0, 2, 8));
        refusedChangesNothing(5, "output, no such side", BOUNDS, x -> x.output(-1, 2));
        refusedChangesNothing(5, "output, no such literal", BOUNDS, x -> x.output(0, 10));
        refusedChangesNothing(5, "output, of the other side", ARGUMENT, x -> x.output(1, 7));
        refusedChangesNothing(6, "next, no such side", BOUNDS, x -> x.next(2, 0, 2));
        refusedChangesNothing(6, "next, no such latch", BOUNDS, x -> x.next(0, 1, 2));
        refusedChangesNothing(6, "next, no such literal", BOUNDS, x -> x.next(0, 0, -1));
        refusedChangesNothing(6, "next, of the other side", ARGUMENT, x -> x.next(1, 0, 6));
        refusedChangesNothing(7, "same", BOUNDS, x -> x.same(0, 10));
        refusedChangesNothing(8, "first", BOUNDS, x -> x.first(10));
        refusedChangesNothing(10, "merged", BOUNDS, x -> x.merged(2));
        refusedChangesNothing(11, "hangs", BOUNDS, x -> x.hangs(10));
        refusedChangesNothing(12, "ones", BOUNDS, x -> x.ones(10));
        refusedChangesNothing(13, "value", BOUNDS, x -> x.value(10, 1));
        refusedChangesNothing(14, "differs", BOUNDS, x -> x.differs(-1));
        refusedChangesNothing(15, "witness", BOUNDS, x -> x.witness(1));
        refusedChangesNothing(18, "out", BOUNDS, x -> x.out(0, 1));
        refusedChangesNothing(19, "state", BOUNDS, x -> x.state(0, 1));
        refusedChangesNothing(21, "count", BOUNDS, x -> x.count(7));
        fullRefusedChangesNothing(2, "input, all full", SweepEqual::input);
        fullRefusedChangesNothing(3, "latch, all full", x -> x.latch(1, 1));
        fullRefusedChangesNothing(4, "and, all full", x -> x.and(0, 2, 4));
        fullRefusedChangesNothing(5, "output of side 0, all full", x -> x.output(0, 3));
        fullRefusedChangesNothing(5, "output of side 1, all full", x -> x.output(1, 2));
    }

    // ---- promises 7 to 13: what is the same ----

    private static void sames() {
        test(7, "a literal below 0", () -> {
            SweepEqual x = with(1, 0);
            for (int literal : new int[] {-1, -2, LEAST}) {
                due(BOUNDS, () -> x.same(literal, 0));
                due(BOUNDS, () -> x.same(0, literal));
                due(BOUNDS, () -> x.same(literal, literal));
            }
        });
        test(7, "a literal one too large", () -> {
            SweepEqual x = with(1, 0);
            for (int literal : new int[] {4, 5, GREATEST}) {
                due(BOUNDS, () -> x.same(literal, 0));
                due(BOUNDS, () -> x.same(0, literal));
                due(BOUNDS, () -> x.same(literal, literal));
            }
        });
        test(7, "the largest literal that there is", () -> {
            SweepEqual x = with(1, 0);
            due(true, () -> x.same(3, 3));
            due(false, () -> x.same(2, 3));
        });
        test(7, "FALSE and FALSE turned", () -> {
            SweepEqual x = with(1, 1);
            int no = x.and(0, 2, 3);
            int yes = x.and(1, 1, 1);
            due(true, () -> x.same(no, 0));
            due(true, () -> x.same(no + 1, yes));
            due(true, () -> x.same(yes, 1));
            due(false, () -> x.same(no, yes));
            due(false, () -> x.same(2, 0));
            due(false, () -> x.same(2, 1));
        });
        test(7, "two literals of the two sides", () -> {
            SweepEqual x = with(2, 0);
            int of0 = x.and(0, 2, 4);
            int of1 = x.and(1, 4, 2);
            due(true, () -> x.same(of0, of1));
            due(true, () -> x.same(of0 + 1, of1 + 1));
            due(false, () -> x.same(of0, of1 + 1));
        });
        test(7, "functions that part in one assignment alone", () -> {
            SweepEqual x = with(8, 4);
            int all = andOfAllTwelve(x, 0);
            due(false, () -> x.same(all, 0));
            due(false, () -> x.same(all + 1, 1));
        });
    }

    private static int andOfAllTwelve(SweepEqual x, int side) {
        int all = 2;
        for (int node = 2; node <= 12; node++) {
            all = x.and(side, all, 2 * node);
        }
        return all;
    }

    private static void firsts() {
        test(8, "a literal below 0 or one too large", () -> {
            SweepEqual x = with(1, 0);
            for (int literal : new int[] {-1, LEAST, 4, GREATEST}) {
                due(BOUNDS, () -> x.first(literal));
            }
        });
        test(8, "FALSE and FALSE turned, and what is the same as they", () -> {
            SweepEqual x = with(1, 0);
            int no = x.and(0, 3, 2);
            int yes = x.and(1, 1, 1);
            due(0, () -> x.first(0));
            due(1, () -> x.first(1));
            due(0, () -> x.first(no));
            due(1, () -> x.first(no + 1));
            due(1, () -> x.first(yes));
            due(0, () -> x.first(yes + 1));
        });
        test(8, "the least node of a class is its own first, turned too", () -> {
            SweepEqual x = with(1, 1);
            int nor = x.and(1, 3, 5);
            due(2, () -> x.first(2));
            due(3, () -> x.first(3));
            due(nor, () -> x.first(nor));
            due(nor + 1, () -> x.first(nor + 1));
        });
        test(8, "the least node has the function turned", () -> {
            SweepEqual x = with(1, 0);
            int not = x.and(0, 3, 3);
            due(3, () -> x.first(not));
            due(2, () -> x.first(not + 1));
        });
        test(8, "the last literal of 400 nodes", () -> {
            SweepEqual x = filled(with(1, 0), MOST_NODES - 1);
            x.and(0, 3, 3);
            due(3, () -> x.first(798));
            due(2, () -> x.first(799));
            due(BOUNDS, () -> x.first(800));
        });
        test(8, "a first stays when inputs and latches come", () -> {
            SweepEqual x = with(1, 0);
            int copy = x.and(0, 2, 2);
            x.latch(0, 0);
            x.input();
            due(2, () -> x.first(copy));
            due(6, () -> x.first(6));
            due(8, () -> x.first(8));
        });
    }

    private static void classes() {
        test(9, "all nodes of one class", () -> {
            SweepEqual x = filled(new SweepEqual(), MOST_NODES);
            due(1, x::classes);
        });
        test(9, "400 nodes, each of a class of its own", () -> {
            SweepEqual x = allDifferent();
            due(MOST_NODES, () -> x.count(0));
            due(MOST_NODES, x::classes);
            due(0, () -> x.merged(0));
            due(0, () -> x.merged(1));
            due(798, () -> x.first(798));
        });
        test(9, "8 inputs and 4 latches are of 12 classes", () -> due(13, () -> with(8, 4).classes()));
        test(9, "turned functions are of one class", () -> {
            SweepEqual x = with(1, 0);
            x.and(0, 3, 3);
            due(2, x::classes);
        });
    }

    /** 387 ANDs of two or three of the twelve variables, some turned, no two alike. */
    private static SweepEqual allDifferent() {
        SweepEqual x = with(8, 4);
        int[] pairs = new int[MOST_NODES];
        int made = 0;
        for (int a = 1; a <= 12; a++) {
            for (int b = a + 1; b <= 12; b++) {
                for (int turns = 0; turns < 4; turns++) {
                    pairs[made] = x.and(0, 2 * a + (turns & 1), 2 * b + (turns >> 1));
                    made++;
                }
            }
        }
        // Triples of variables 1 and 2 with a third from 3 to 12, then of 11 and 12 with a third from 1 to 10.
        for (int k = 0; 13 + made < MOST_NODES; k++) {
            int pair = k < 80 ? pairs[k / 20] : pairs[260 + (k - 80) / 20];
            x.and(0, pair, (k < 80 ? 6 : 2) + k % 20);
            made++;
        }
        return x;
    }

    private static void merged() {
        test(10, "no such side", () -> {
            SweepEqual x = filled(new SweepEqual(), 9);
            for (int side : NO_SIDES) {
                due(BOUNDS, () -> x.merged(side));
            }
        });
        test(10, "all ANDs but none of the least", () -> {
            SweepEqual x = filled(new SweepEqual(), MOST_NODES);
            due(199, () -> x.merged(0));
            due(200, () -> x.merged(1));
        });
        test(10, "inputs and latches do not count, nor does FALSE", () -> {
            SweepEqual x = with(8, 4);
            due(0, () -> x.merged(0));
            due(0, () -> x.merged(1));
        });
        test(10, "the AND that is the least of its class does not count", () -> {
            SweepEqual x = with(2, 0);
            x.and(0, 2, 4);
            due(0, () -> x.merged(0));
            x.and(1, 2, 4);
            due(0, () -> x.merged(0));
            due(1, () -> x.merged(1));
            x.and(0, 2, 4);
            due(1, () -> x.merged(0));
        });
        test(10, "an AND that is a turned input counts", () -> {
            SweepEqual x = with(1, 0);
            x.and(1, 3, 3);
            due(0, () -> x.merged(0));
            due(1, () -> x.merged(1));
        });
    }

    private static void hangs() {
        test(11, "a literal below 0 or one too large", () -> {
            SweepEqual x = with(1, 1);
            for (int literal : new int[] {-1, LEAST, 6, GREATEST}) {
                due(BOUNDS, () -> x.hangs(literal));
            }
            due(256, () -> x.hangs(5));
        });
        test(11, "FALSE and FALSE turned hang of nothing", () -> {
            SweepEqual x = with(8, 4);
            due(0, () -> x.hangs(0));
            due(0, () -> x.hangs(1));
        });
        test(11, "every input and latch, bit by bit, turned or not", () -> {
            SweepEqual x = with(8, 4);
            for (int k = 0; k < 12; k++) {
                int literal = 2 * k + 2;
                due(1 << k, () -> x.hangs(literal));
                due(1 << k, () -> x.hangs(literal + 1));
            }
        });
        test(11, "all twelve at once", () -> {
            SweepEqual x = with(8, 4);
            int all = andOfAllTwelve(x, 1);
            due(4095, () -> x.hangs(all));
            due(4095, () -> x.hangs(all + 1));
        });
        test(11, "latches keep their bits though there is no input", () -> {
            SweepEqual x = with(0, 2);
            int both = x.and(0, 2, 4);
            due(768, () -> x.hangs(both));
        });
        test(11, "what it is made of but does not hang of", () -> {
            SweepEqual x = with(2, 0);
            int both = x.and(0, 2, 4);
            int only = x.and(0, 2, 5);
            int or = x.and(0, both + 1, only + 1);
            due(1, () -> x.hangs(or));
            int none = x.and(0, 2, or);
            due(0, () -> x.hangs(none));
        });
    }

    private static void ones() {
        test(12, "a literal below 0 or one too large", () -> {
            SweepEqual x = with(1, 0);
            for (int literal : new int[] {-1, LEAST, 4, GREATEST}) {
                due(BOUNDS, () -> x.ones(literal));
            }
        });
        test(12, "FALSE and FALSE turned, with none to all of the inputs and latches", () -> {
            SweepEqual x = new SweepEqual();
            for (int k = 0; k <= 12; k++) {
                due(0, () -> x.ones(0));
                due(1 << k, () -> x.ones(1));
                if (k < 8) {
                    x.input();
                } else if (k < 12) {
                    x.latch(0, 0);
                }
            }
        });
        test(12, "one assignment of all, and all but one", () -> {
            SweepEqual x = with(8, 4);
            int all = andOfAllTwelve(x, 0);
            due(1, () -> x.ones(all));
            due(4095, () -> x.ones(all + 1));
        });
        test(12, "only assignments of what there is count", () -> {
            SweepEqual x = with(0, 1);
            due(1, () -> x.ones(2));
            x.input();
            due(2, () -> x.ones(2));
            due(2, () -> x.ones(5));
        });
    }

    private static void values() {
        test(13, "a literal below 0 or one too large", () -> {
            SweepEqual x = with(1, 0);
            for (int literal : new int[] {-1, LEAST, 4, GREATEST}) {
                due(BOUNDS, () -> x.value(literal, 0));
            }
            due(1, () -> x.value(3, 0));
        });
        test(13, "FALSE and FALSE turned in any assignment", () -> {
            SweepEqual x = with(8, 4);
            for (int assignment : new int[] {0, 1, 4095, 4096, -1, LEAST, GREATEST}) {
                due(0, () -> x.value(0, assignment));
                due(1, () -> x.value(1, assignment));
            }
        });
        test(13, "the last assignment that there may be", () -> {
            SweepEqual x = with(8, 4);
            int all = andOfAllTwelve(x, 0);
            due(1, () -> x.value(all, 4095));
            due(0, () -> x.value(all, 4094));
            due(0, () -> x.value(all, 2047));
        });
        test(13, "bits of inputs that there are not", () -> {
            SweepEqual x = with(1, 1);
            int both = x.and(0, 2, 4);
            due(1, () -> x.value(both, 257 + 254));
            due(0, () -> x.value(both, 254 + 256));
        });
        test(13, "bits of latches that there are not", () -> {
            SweepEqual x = with(1, 1);
            int both = x.and(0, 2, 4);
            due(1, () -> x.value(both, 257 + 0xE00));
            due(0, () -> x.value(both, 0xE01));
        });
        test(13, "bits above all inputs and latches", () -> {
            SweepEqual x = with(8, 4);
            int all = andOfAllTwelve(x, 0);
            due(1, () -> x.value(all, 4095 + 4096));
            due(0, () -> x.value(all, 4096));
            due(1, () -> x.value(all, GREATEST));
            due(0, () -> x.value(all, GREATEST - 1));
        });
        test(13, "negative assignments", () -> {
            SweepEqual x = with(8, 4);
            int all = andOfAllTwelve(x, 0);
            due(1, () -> x.value(all, -1));
            due(0, () -> x.value(all, -2));
            due(0, () -> x.value(all, LEAST));
            due(1, () -> x.value(all, LEAST + 4095));
        });
        test(13, "a bit counts once its input is there, and not before", () -> {
            SweepEqual x = with(1, 0);
            due(0, () -> x.value(2, 2));
            x.input();
            due(0, () -> x.value(2, 2));
            due(1, () -> x.value(4, 2));
        });
    }

    // ---- promises 14 and 15: what differs ----

    /** One input, 4 latches; all that is matched differs: 16 and some outputs, nexts, starts. */
    private static SweepEqual allDiffers(int outputsA, int outputsB) {
        SweepEqual x = new SweepEqual();
        x.input();
        for (int k = 0; k < 4; k++) {
            x.latch(k & 1, 1 - (k & 1));
            x.next(0, k, 2);
            x.next(1, k, 3);
        }
        outputs(x, 0, 2, outputsA);
        outputs(x, 1, 3, outputsB);
        return x;
    }

    private static void dueDiffers(SweepEqual x, int outputs, boolean howMany) {
        for (int k = 0; k < outputs; k++) {
            int at = k;
            due(k, () -> x.differs(at));
        }
        for (int k = 0; k < 4; k++) {
            int at = outputs + k;
            due(100 + k, () -> x.differs(at));
            due(200 + k, () -> x.differs(at + 4));
        }
        if (howMany) {
            due(300, () -> x.differs(outputs + 8));
        }
        int behind = outputs + (howMany ? 9 : 8);
        due(NONE, () -> x.differs(behind));
        due(NONE, () -> x.differs(behind + 1));
        due(NONE, () -> x.differs(GREATEST));
    }

    private static void differs() {
        test(14, "k is below 0", () -> {
            SweepEqual x = allDiffers(2, 1);
            due(BOUNDS, () -> x.differs(-1));
            due(BOUNDS, () -> x.differs(LEAST));
        });
        test(14, "k is below 0 when nothing differs", () -> due(BOUNDS, () -> new SweepEqual().differs(-1)));
        test(14, "all that there may be, the last k and the one behind it", () -> {
            SweepEqual x = allDiffers(16, 16);
            dueDiffers(x, 16, false);
        });
        test(14, "side 0 has one output more", () -> dueDiffers(allDiffers(16, 15), 15, true));
        test(14, "side 1 has one output more", () -> dueDiffers(allDiffers(15, 16), 15, true));
        test(14, "side 0 alone has outputs", () -> dueDiffers(allDiffers(3, 0), 0, true));
        test(14, "side 1 alone has outputs", () -> dueDiffers(allDiffers(0, 16), 0, true));
        test(14, "neither side has outputs", () -> dueDiffers(allDiffers(0, 0), 0, false));
        test(14, "nothing differs", () -> {
            SweepEqual x = with(2, 4);
            int of0 = x.and(0, 2, 4);
            int of1 = x.and(1, 4, 2);
            x.output(0, of0);
            x.output(1, of1);
            x.next(0, 3, of0 + 1);
            x.next(1, 3, of1 + 1);
            due(NONE, () -> x.differs(0));
            due(NONE, () -> x.differs(1));
            due(NONE, () -> x.differs(GREATEST));
        });
    }

    private static void dueOneThing(SweepEqual x, int thing) {
        due(thing, () -> x.differs(0));
        due(NONE, () -> x.differs(1));
    }

    private static void differsOneThing() {
        test(14, "the last output alone differs", () -> {
            SweepEqual x = with(1, 4);
            outputs(x, 0, 2, 16);
            outputs(x, 1, 2, 15);
            x.output(1, 3);
            dueOneThing(x, 15);
        });
        test(14, "the last next alone differs", () -> {
            SweepEqual x = with(1, 4);
            x.next(1, 3, 2);
            dueOneThing(x, 103);
        });
        test(14, "the last start alone differs", () -> {
            SweepEqual x = with(1, 3);
            x.latch(1, 0);
            dueOneThing(x, 203);
        });
        test(14, "how many alone differs", () -> {
            SweepEqual x = with(1, 4);
            outputs(x, 0, 2, 15);
            outputs(x, 1, 2, 16);
            dueOneThing(x, 300);
        });
        test(14, "an output that one side alone has is no thing", () -> {
            SweepEqual x = with(1, 0);
            x.output(0, 2);
            x.output(0, 2);
            x.output(1, 2);
            dueOneThing(x, 300);
            x.output(1, 3);
            dueOneThing(x, 1);
        });
        test(14, "states do not differ as things", () -> {
            SweepEqual x = with(0, 1);
            x.next(0, 0, 1);
            x.step(0);
            x.next(0, 0, 2);
            due(NONE, () -> x.differs(0));
        });
        test(14, "literals that part in the last assignment alone", () -> {
            SweepEqual x = with(8, 4);
            x.output(0, andOfAllTwelve(x, 0));
            x.output(1, 0);
            dueOneThing(x, 0);
        });
    }

    private static void witnesses() {
        test(15, "the last output that there may be", () -> {
            SweepEqual x = allDiffers(16, 16);
            due(0, () -> x.witness(15));
            due(BOUNDS, () -> x.witness(16));
        });
        test(15, "the last next that there may be", () -> {
            SweepEqual x = allDiffers(0, 0);
            due(0, () -> x.witness(103));
            due(BOUNDS, () -> x.witness(104));
        });
        test(15, "the literals of an output are the same", () -> {
            SweepEqual x = with(1, 0);
            x.output(0, x.and(0, 2, 2));
            x.output(1, 2);
            due(NONE, () -> x.witness(0));
        });
        test(15, "the literals of a next are the same", () -> {
            SweepEqual x = with(1, 1);
            due(NONE, () -> x.witness(100));
            x.next(0, 0, x.and(0, 4, 4));
            due(NONE, () -> x.witness(100));
        });
        test(15, "the least assignment is 0", () -> {
            SweepEqual x = with(8, 4);
            x.output(0, 25);
            x.output(1, 0);
            due(0, () -> x.witness(0));
        });
        test(15, "the only assignment is the last", () -> {
            SweepEqual x = with(8, 4);
            x.output(0, andOfAllTwelve(x, 0));
            x.output(1, 0);
            due(4095, () -> x.witness(0));
        });
        test(15, "each input and latch alone", () -> {
            for (int k = 0; k < 12; k++) {
                SweepEqual x = with(8, 4);
                x.next(0, 0, 2 * k + 2);
                x.next(1, 0, 0);
                due(1 << k, () -> x.witness(100));
            }
        });
        test(15, "bits of what there is not are 0", () -> {
            SweepEqual x = with(1, 1);
            x.output(0, x.and(0, 2, 4));
            x.output(1, 0);
            due(257, () -> x.witness(0));
        });
        test(15, "nothing is there but FALSE: the one assignment", () -> {
            SweepEqual x = new SweepEqual();
            x.output(0, 0);
            x.output(1, 1);
            due(0, () -> x.witness(0));
        });
    }

    private static void witnessesOfNoThing() {
        test(15, "things below 0", () -> {
            SweepEqual x = allDiffers(16, 16);
            due(BOUNDS, () -> x.witness(-1));
            due(BOUNDS, () -> x.witness(LEAST));
        });
        test(15, "an output that side 0 alone has", () -> {
            SweepEqual x = allDiffers(16, 15);
            due(0, () -> x.witness(14));
            due(BOUNDS, () -> x.witness(15));
        });
        test(15, "an output that side 1 alone has", () -> {
            SweepEqual x = allDiffers(0, 1);
            due(BOUNDS, () -> x.witness(0));
        });
        test(15, "things between outputs and nexts", () -> {
            SweepEqual x = allDiffers(16, 16);
            due(BOUNDS, () -> x.witness(16));
            due(BOUNDS, () -> x.witness(99));
        });
        test(15, "a next of a latch that there is not", () -> {
            SweepEqual x = with(1, 0);
            due(BOUNDS, () -> x.witness(100));
            x.latch(0, 0);
            due(NONE, () -> x.witness(100));
            due(BOUNDS, () -> x.witness(101));
        });
        test(15, "a start is neither an output nor a next", () -> {
            SweepEqual x = allDiffers(16, 16);
            for (int thing = 199; thing <= 204; thing++) {
                int at = thing;
                due(BOUNDS, () -> x.witness(at));
            }
        });
        test(15, "how many is neither an output nor a next", () -> {
            SweepEqual x = allDiffers(16, 15);
            due(BOUNDS, () -> x.witness(299));
            due(BOUNDS, () -> x.witness(300));
            due(BOUNDS, () -> x.witness(301));
        });
        test(15, "the greatest number", () -> {
            SweepEqual x = allDiffers(16, 16);
            due(BOUNDS, () -> x.witness(GREATEST));
        });
    }

    // ---- promises 16 to 20: clocks ----

    private static void resets() {
        test(16, "a reset without a step", () -> {
            SweepEqual x = new SweepEqual();
            x.latch(0, 1);
            x.output(0, 2);
            x.output(1, 2);
            x.next(0, 0, 3);
            x.reset();
            dueSetBack(x);
        });
        test(16, "a reset behind a step", () -> {
            SweepEqual x = clockedApart();
            x.reset();
            dueSetBack(x);
        });
        test(16, "two resets", () -> {
            SweepEqual x = clockedApart();
            x.reset();
            x.reset();
            dueSetBack(x);
        });
        test(16, "a reset keeps nodes, outputs and nexts", () -> {
            SweepEqual x = clockedApart();
            x.reset();
            due(2, () -> x.count(0));
            due(1, () -> x.count(5));
            due(3, () -> x.next(0, 0, 2));
            due(200, () -> x.differs(0));
        });
        test(16, "states of all 4 latches are the starts", () -> {
            SweepEqual x = new SweepEqual();
            for (int k = 0; k < 4; k++) {
                x.latch(k & 1, k >> 1);
                x.next(0, k, 2 * k + 3);
                x.next(1, k, 2 * k + 3);
            }
            x.step(0);
            x.reset();
            for (int k = 0; k < 4; k++) {
                int latch = k;
                due(k & 1, () -> x.state(0, latch));
                due(k >> 1, () -> x.state(1, latch));
            }
        });
    }

    private static void steps() {
        test(17, "the first step since reset", () -> {
            SweepEqual x = with(1, 0);
            due(1, () -> x.step(0));
            due(2, () -> x.step(0));
            x.reset();
            due(1, () -> x.step(0));
        });
        test(17, "bits of inputs that there are not", () -> {
            SweepEqual x = with(1, 0);
            outputs(x, 0, 2, 1);
            x.step(254);
            due(0, () -> x.out(0, 0));
            x.step(255);
            due(1, () -> x.out(0, 0));
        });
        test(17, "bits where an assignment has latches", () -> {
            SweepEqual x = with(8, 4);
            for (int latch = 0; latch < 4; latch++) {
                x.output(0, 2 * latch + 18);
            }
            x.step(0xF00);
            for (int k = 0; k < 4; k++) {
                int latch = k;
                due(0, () -> x.out(0, latch));
                due(0, () -> x.state(0, latch));
            }
        });
        test(17, "latches are told by the states though their bits are 0", () -> {
            SweepEqual x = new SweepEqual();
            x.latch(1, 1);
            x.output(0, 2);
            x.step(0);
            due(1, () -> x.out(0, 0));
            due(1, () -> x.state(0, 0));
        });
        test(17, "negative numbers and large ones", () -> {
            SweepEqual x = with(8, 1);
            x.output(0, 2);
            x.output(0, 16);
            x.output(0, 18);
            int[][] rows = {{-1, 1, 1}, {LEAST, 0, 0}, {GREATEST, 1, 1}, {-2, 0, 1}, {LEAST + 128, 0, 1}, {256, 0, 0}};
            for (int[] row : rows) {
                x.step(row[0]);
                due(row[1], () -> x.out(0, 0));
                due(row[2], () -> x.out(0, 1));
                due(0, () -> x.out(0, 2));
            }
        });
        test(17, "the last input", () -> {
            SweepEqual x = with(8, 0);
            x.output(1, 16);
            x.step(128);
            due(1, () -> x.out(1, 0));
            x.step(127);
            due(0, () -> x.out(1, 0));
        });
        test(17, "outputs are told by the state before the step", () -> {
            SweepEqual x = with(0, 1);
            x.next(0, 0, 1);
            x.output(0, 2);
            x.step(0);
            due(0, () -> x.out(0, 0));
            due(1, () -> x.state(0, 0));
        });
        test(17, "all nexts are told by the state before the step", () -> {
            SweepEqual x = new SweepEqual();
            for (int k = 0; k < 4; k++) {
                x.latch(k == 0 ? 1 : 0, k == 3 ? 1 : 0);
            }
            // Side 0 hands its values up, side 1 down, both in a ring: each way a value told too early would spread.
            for (int k = 0; k < 4; k++) {
                x.next(0, k, 2 * ((k + 3) % 4) + 2);
                x.next(1, k, 2 * ((k + 1) % 4) + 2);
            }
            for (int step = 1; step <= 5; step++) {
                x.step(0);
                for (int k = 0; k < 4; k++) {
                    int latch = k;
                    due(k == step % 4 ? 1 : 0, () -> x.state(0, latch));
                    due(k == (7 - step) % 4 ? 1 : 0, () -> x.state(1, latch));
                }
            }
        });
    }

    private static void outs() {
        test(18, "no step since the object was made", () -> {
            SweepEqual x = with(1, 0);
            outputs(x, 0, 1, 16);
            due(NONE, () -> x.out(0, 0));
            due(NONE, () -> x.out(0, 15));
        });
        test(18, "no step since reset", () -> {
            SweepEqual x = clockedApart();
            x.reset();
            due(NONE, () -> x.out(0, 0));
            due(NONE, () -> x.out(1, 0));
        });
        test(18, "no step since a latch", () -> {
            SweepEqual x = clockedApart();
            x.latch(0, 0);
            due(NONE, () -> x.out(0, 0));
            due(NONE, () -> x.out(1, 0));
        });
        test(18, "an output that was not there in the latest step", () -> {
            SweepEqual x = with(1, 0);
            x.output(0, 1);
            x.step(0);
            x.output(0, 1);
            x.output(1, 1);
            due(1, () -> x.out(0, 0));
            due(NONE, () -> x.out(0, 1));
            due(NONE, () -> x.out(1, 0));
            x.step(0);
            due(1, () -> x.out(0, 1));
            due(1, () -> x.out(1, 0));
        });
        test(18, "an output that was there before the reset but in no step since", () -> {
            SweepEqual x = with(1, 0);
            x.output(0, 1);
            x.step(0);
            x.reset();
            x.output(0, 1);
            due(NONE, () -> x.out(0, 0));
            due(NONE, () -> x.out(0, 1));
            x.step(0);
            due(1, () -> x.out(0, 1));
        });
        test(18, "no such output, below 0 and too large", () -> {
            SweepEqual x = with(1, 0);
            x.output(0, 2);
            x.step(0);
            for (int output : new int[] {-1, LEAST, 1, 15, 16, GREATEST}) {
                due(BOUNDS, () -> x.out(0, output));
            }
        });
        test(18, "an output that the other side alone has", () -> {
            SweepEqual x = with(1, 0);
            x.output(1, 2);
            x.step(1);
            due(BOUNDS, () -> x.out(0, 0));
            due(1, () -> x.out(1, 0));
        });
        test(18, "no such output without a step", () -> {
            SweepEqual x = with(1, 0);
            due(BOUNDS, () -> x.out(0, 0));
            x.output(0, 2);
            due(NONE, () -> x.out(0, 0));
            due(BOUNDS, () -> x.out(0, 1));
        });
        test(18, "no such side", () -> {
            SweepEqual x = with(1, 0);
            x.output(0, 2);
            x.output(1, 2);
            x.step(0);
            for (int side : NO_SIDES) {
                due(BOUNDS, () -> x.out(side, 0));
            }
        });
        test(18, "the last of 16 outputs, and the one behind it", () -> {
            SweepEqual x = with(1, 0);
            outputs(x, 0, 0, 15);
            x.output(0, 2);
            x.step(1);
            due(0, () -> x.out(0, 14));
            due(1, () -> x.out(0, 15));
            due(BOUNDS, () -> x.out(0, 16));
        });
        test(18, "what it was, though the state is another now", () -> {
            SweepEqual x = with(0, 1);
            x.output(0, 2);
            x.next(0, 0, 1);
            x.step(0);
            due(0, () -> x.out(0, 0));
            due(0, () -> x.out(0, 0));
        });
    }

    private static void states() {
        test(19, "without a step", () -> {
            SweepEqual x = new SweepEqual();
            x.latch(1, 0);
            due(1, () -> x.state(0, 0));
            due(0, () -> x.state(1, 0));
        });
        test(19, "no such latch, below 0 and too large", () -> {
            SweepEqual x = with(0, 2);
            for (int latch : new int[] {-1, LEAST, 2, 3, 4, 32, GREATEST}) {
                due(BOUNDS, () -> x.state(0, latch));
                due(BOUNDS, () -> x.state(1, latch));
            }
            due(0, () -> x.state(1, 1));
        });
        test(19, "the last of 4 latches, and the one behind it", () -> {
            SweepEqual x = with(0, 3);
            x.latch(0, 1);
            due(0, () -> x.state(0, 3));
            due(1, () -> x.state(1, 3));
            due(BOUNDS, () -> x.state(1, 4));
        });
        test(19, "no such side", () -> {
            SweepEqual x = with(0, 1);
            for (int side : NO_SIDES) {
                due(BOUNDS, () -> x.state(side, 0));
            }
        });
        test(19, "a latch whose next is itself keeps its start", () -> {
            SweepEqual x = new SweepEqual();
            x.latch(1, 0);
            x.step(0);
            x.step(-1);
            due(1, () -> x.state(0, 0));
            due(0, () -> x.state(1, 0));
        });
        test(19, "a new next counts from the next step on", () -> {
            SweepEqual x = with(0, 1);
            x.step(0);
            x.next(0, 0, 1);
            due(0, () -> x.state(0, 0));
            x.step(0);
            due(1, () -> x.state(0, 0));
            due(0, () -> x.state(1, 0));
        });
    }

    private static void aparts() {
        test(20, "no step", () -> {
            SweepEqual x = new SweepEqual();
            x.output(0, 0);
            x.output(1, 1);
            due(NONE, x::apart);
        });
        test(20, "no step since reset", () -> {
            SweepEqual x = clockedApart();
            due(0, x::apart);
            x.reset();
            due(NONE, x::apart);
        });
        test(20, "no step since a latch", () -> {
            SweepEqual x = clockedApart();
            x.latch(0, 0);
            due(NONE, x::apart);
        });
        test(20, "no output", () -> {
            SweepEqual x = new SweepEqual();
            x.latch(0, 1);
            x.step(0);
            due(NONE, x::apart);
        });
        test(20, "no output of both sides", () -> {
            SweepEqual x = new SweepEqual();
            outputs(x, 0, 1, 16);
            x.step(0);
            due(NONE, x::apart);
        });
        test(20, "the output that one side alone has does not count", () -> {
            SweepEqual x = new SweepEqual();
            x.output(0, 1);
            x.output(1, 1);
            x.output(1, 1);
            x.step(0);
            due(NONE, x::apart);
        });
        test(20, "an output that one side alone had then, though both have it now", () -> {
            SweepEqual x = new SweepEqual();
            x.output(0, 1);
            x.step(0);
            x.output(1, 0);
            due(NONE, x::apart);
            x.step(0);
            due(1, x::apart);
        });
        test(20, "the last of 16 outputs alone is not the same", () -> {
            SweepEqual x = with(1, 0);
            outputs(x, 0, 2, 16);
            outputs(x, 1, 2, 15);
            x.output(1, 3);
            x.step(1);
            due(0, x::apart);
        });
        test(20, "step 0", () -> {
            SweepEqual x = new SweepEqual();
            x.output(0, 0);
            x.output(1, 1);
            x.step(0);
            due(0, x::apart);
            x.step(0);
            due(0, x::apart);
        });
        test(20, "a later step, and it stays though later ones are the same", () -> {
            SweepEqual x = with(1, 0);
            x.output(0, 2);
            x.output(1, 0);
            x.step(0);
            x.step(0);
            due(NONE, x::apart);
            x.step(1);
            due(2, x::apart);
            x.step(0);
            due(2, x::apart);
        });
        test(20, "things that differ but were the same in each step", () -> {
            SweepEqual x = with(1, 0);
            x.output(0, 2);
            x.output(1, 0);
            x.step(0);
            due(0, () -> x.differs(0));
            due(NONE, x::apart);
        });
    }

    // ---- promise 21: count ----

    private static void counts() {
        test(21, "what is below 0 or above 6", () -> {
            SweepEqual x = with(1, 1);
            for (int what : new int[] {-1, LEAST, 7, 8, GREATEST}) {
                due(BOUNDS, () -> x.count(what));
            }
        });
        test(21, "every what, each with a number of its own", () -> {
            SweepEqual x = with(8, 4);
            for (int k = 0; k < 3; k++) {
                x.and(0, 2, 4);
            }
            for (int k = 0; k < 5; k++) {
                x.and(1, 2, 4);
            }
            outputs(x, 0, 2, 16);
            outputs(x, 1, 2, 7);
            int[] want = {21, 8, 4, 3, 5, 16, 7};
            for (int k = 0; k < want.length; k++) {
                int what = k;
                due(want[k], () -> x.count(what));
            }
        });
        test(21, "every what at its most", () -> {
            SweepEqual x = fullOfAll();
            int[] want = {400, 8, 4, 193, 194, 16, 16};
            for (int k = 0; k < want.length; k++) {
                int what = k;
                due(want[k], () -> x.count(what));
            }
        });
        test(21, "399 ANDs of one side", () -> {
            SweepEqual x = new SweepEqual();
            for (int k = 0; k < 399; k++) {
                x.and(1, 0, 0);
            }
            due(400, () -> x.count(0));
            due(0, () -> x.count(3));
            due(399, () -> x.count(4));
        });
    }

    // ---- "An object is used for at most 512 calls": the 512th ----

    /** 511 calls, 504 of them steps; in the last alone input 0 is 1 and the outputs are not the same. */
    private static SweepEqual before512th() {
        SweepEqual x = new SweepEqual();
        x.input();
        x.latch(0, 1);
        x.and(0, 2, 4);
        x.and(1, 2, 5);
        x.output(0, 6);
        x.output(1, 8);
        x.next(0, 0, 7);
        for (int k = 0; k < 503; k++) {
            x.step(0);
        }
        x.step(1);
        return x;
    }

    private static void last(int promise, String name, Object want, CallOn call) {
        test(promise, "the 512th call is " + name, () -> {
            SweepEqual x = before512th();
            due(want, () -> call.make(x));
        });
    }

    private static void lastCalls() {
        last(2, "input", 10, SweepEqual::input);
        last(3, "latch", 10, x -> x.latch(1, 1));
        last(3, "latch, refused", ARGUMENT, x -> x.latch(1, 2));
        last(4, "and", 10, x -> x.and(1, 9, 3));
        last(4, "and, refused", ARGUMENT, x -> x.and(0, 9, 3));
        last(5, "output", 1, x -> x.output(0, 7));
        last(5, "output, refused", BOUNDS, x -> x.output(0, 10));
        last(6, "next", 7, x -> x.next(0, 0, 2));
        last(7, "same", false, x -> x.same(6, 8));
        last(8, "first", 9, x -> x.first(9));
        last(9, "classes", 5, SweepEqual::classes);
        last(10, "merged", 0, x -> x.merged(1));
        last(11, "hangs", 257, x -> x.hangs(8));
        last(12, "ones", 3, x -> x.ones(7));
        last(13, "value", 1, x -> x.value(8, -257));
        last(14, "differs", 200, x -> x.differs(2));
        last(14, "differs, no more", NONE, x -> x.differs(3));
        last(15, "witness", 1, x -> x.witness(0));
        last(16, "reset", "done", x -> {
            x.reset();
            return "done";
        });
        last(17, "step", 505, x -> x.step(0));
        last(18, "out", 1, x -> x.out(0, 0));
        last(18, "out of side 1", 0, x -> x.out(1, 0));
        last(19, "state", 0, x -> x.state(0, 0));
        last(19, "state of side 1", 1, x -> x.state(1, 0));
        last(20, "apart", 503, SweepEqual::apart);
        last(21, "count", 5, x -> x.count(0));
        last(22, "clear", "done", x -> {
            x.clear();
            return "done";
        });
    }

    /** 511 calls: 400 nodes, 16 outputs a side, 8 nexts, 72 steps. */
    private static SweepEqual fullBefore512th() {
        SweepEqual x = fullOfAll();
        for (int k = 0; k < 4; k++) {
            x.next(0, k, 797);
            x.next(1, k, 799);
        }
        for (int k = 0; k < 72; k++) {
            x.step(k);
        }
        return x;
    }

    private static void fullLast(int promise, String name, Object want, CallOn call) {
        test(promise, "all full, the 512th call is " + name, () -> {
            SweepEqual x = fullBefore512th();
            due(want, () -> call.make(x));
        });
    }

    private static void lastCallsOfAFullObject() {
        fullLast(2, "input", STATE, SweepEqual::input);
        fullLast(3, "latch", STATE, x -> x.latch(0, 0));
        fullLast(4, "and", STATE, x -> x.and(0, 0, 0));
        fullLast(5, "output", STATE, x -> x.output(0, 0));
        fullLast(6, "next", 799, x -> x.next(1, 3, 798));
        fullLast(7, "same", true, x -> x.same(799, 27));
        fullLast(8, "first", 27, x -> x.first(799));
        fullLast(9, "classes", 14, SweepEqual::classes);
        fullLast(10, "merged", 193, x -> x.merged(0));
        fullLast(11, "hangs", 2049, x -> x.hangs(798));
        fullLast(12, "ones", 3072, x -> x.ones(799));
        fullLast(13, "value", 1, x -> x.value(798, -1));
        fullLast(14, "differs", NONE, x -> x.differs(16));
        fullLast(14, "differs, the last", 15, x -> x.differs(15));
        fullLast(15, "witness", 0, x -> x.witness(15));
        fullLast(15, "witness of a next", NONE, x -> x.witness(103));
        fullLast(17, "step", 73, x -> x.step(0));
        fullLast(18, "out", 1, x -> x.out(0, 15));
        fullLast(19, "state", 0, x -> x.state(0, 3));
        fullLast(20, "apart", 0, SweepEqual::apart);
        fullLast(21, "count", 400, x -> x.count(0));
    }
}

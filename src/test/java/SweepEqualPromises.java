/** At least one test for each promise: ordinary inputs, the edges that the document names, and wrong inputs. */
public final class SweepEqualPromises {
    private static final String BOUNDS = "IndexOutOfBoundsException";
    private static final String STATE = "IllegalStateException";
    private static final String ARGUMENT = "IllegalArgumentException";
    private static int checks = 0;
    private static int wrong = 0;

    private interface Call {
        Object make();
    }

    private static void due(int promise, String what, Object want, Call call) {
        checks++;
        Object got;
        try {
            got = call.make();
        } catch (RuntimeException e) {
            got = e.getClass().getSimpleName();
        }
        if (!want.equals(got)) {
            wrong++;
            System.out.println("promise " + promise + ": " + what + " answered " + got + ", due is " + want);
        }
    }

    public static void main(String[] args) {
        newObject();
        inputs();
        latches();
        latchIsAsReset();
        ands();
        fullOfNodes();
        outputs();
        nexts();
        sameAndFirst();
        firstAcrossSides();
        classesAndMerged();
        hangs();
        ones();
        values();
        differs();
        differsInOrder();
        witnesses();
        resets();
        steps();
        stepsSeeOnlyInputs();
        outs();
        states();
        aparts();
        apartCountsOnlySharedOutputs();
        counts();
        clears();
        clearAfterFull();
        throwsChangeNothing();
        System.out.println((checks - wrong) + " of " + checks + " checks hold");
        if (wrong != 0) {
            System.exit(1);
        }
    }

    private static void dueNew(int promise, SweepEqual x) {
        due(promise, "nodes", 1, () -> x.count(0));
        for (int what = 1; what <= 6; what++) {
            int w = what;
            due(promise, "count(" + w + ")", 0, () -> x.count(w));
        }
        due(promise, "classes", 1, x::classes);
        due(promise, "merged(0)", 0, () -> x.merged(0));
        due(promise, "merged(1)", 0, () -> x.merged(1));
        due(promise, "ones(0)", 0, () -> x.ones(0));
        due(promise, "ones(1)", 1, () -> x.ones(1));
        due(promise, "first(1)", 1, () -> x.first(1));
        due(promise, "first(2)", BOUNDS, () -> x.first(2));
        due(promise, "differs(0)", -1, () -> x.differs(0));
        due(promise, "witness(0)", BOUNDS, () -> x.witness(0));
        due(promise, "witness(100)", BOUNDS, () -> x.witness(100));
        due(promise, "apart", -1, x::apart);
        due(promise, "out(0, 0)", BOUNDS, () -> x.out(0, 0));
        due(promise, "state(0, 0)", BOUNDS, () -> x.state(0, 0));
        due(promise, "next(0, 0, 0)", BOUNDS, () -> x.next(0, 0, 0));
        due(promise, "step", 1, () -> x.step(-1));
        due(promise, "apart after a step", -1, x::apart);
    }

    private static void newObject() {
        due(1, "NONE", -1, () -> SweepEqual.NONE);
        dueNew(1, new SweepEqual());
    }

    private static void inputs() {
        SweepEqual x = new SweepEqual();
        for (int k = 0; k < 8; k++) {
            due(2, "input " + k, 2 * k + 2, x::input);
        }
        due(2, "ninth input", STATE, x::input);
        due(2, "nodes", 9, () -> x.count(0));
        due(2, "value of input 7", 1, () -> x.value(16, 128));
        due(2, "value of input 7 turned", 0, () -> x.value(17, 128));
        SweepEqual y = new SweepEqual();
        y.input();
        y.output(0, 2);
        y.step(1);
        y.input();
        due(2, "an input is no reset", 1, () -> y.out(0, 0));
        due(2, "steps go on", 2, () -> y.step(0));
    }

    private static void latches() {
        SweepEqual x = new SweepEqual();
        due(3, "start 2", ARGUMENT, () -> x.latch(2, 0));
        due(3, "start -1", ARGUMENT, () -> x.latch(0, -1));
        due(3, "start of side 1 is 2", ARGUMENT, () -> x.latch(1, 2));
        due(3, "no latch yet", 0, () -> x.count(2));
        for (int k = 0; k < 4; k++) {
            int start = k & 1;
            due(3, "latch " + k, 2 * k + 2, () -> x.latch(start, 1 - start));
        }
        for (int k = 0; k < 4; k++) {
            int latch = k;
            due(3, "state of side 0", k & 1, () -> x.state(0, latch));
            due(3, "state of side 1", 1 - (k & 1), () -> x.state(1, latch));
        }
        due(3, "fifth latch", STATE, () -> x.latch(0, 0));
        due(3, "the state comes before the argument", STATE, () -> x.latch(7, 7));
        due(3, "value of latch 3", 1, () -> x.value(8, 1 << 11));
        due(3, "nodes", 5, () -> x.count(0));
    }

    private static void latchIsAsReset() {
        SweepEqual x = new SweepEqual();
        x.latch(0, 1);
        x.next(0, 0, 1);
        x.next(1, 0, 0);
        x.output(0, 2);
        x.output(1, 2);
        x.step(0);
        due(3, "state before", 1, () -> x.state(0, 0));
        due(3, "apart before", 0, x::apart);
        due(3, "a wrong latch", ARGUMENT, () -> x.latch(0, 5));
        due(3, "a wrong latch is no reset", 1, () -> x.out(1, 0));
        x.latch(1, 1);
        due(3, "state after", 0, () -> x.state(0, 0));
        due(3, "state after of side 1", 1, () -> x.state(1, 0));
        due(3, "out after", -1, () -> x.out(0, 0));
        due(3, "apart after", -1, x::apart);
        due(3, "step after", 1, () -> x.step(0));
    }

    private static void ands() {
        SweepEqual x = new SweepEqual();
        x.input();
        x.input();
        due(4, "and of side 0", 6, () -> x.and(0, 2, 5));
        due(4, "and of side 1", 8, () -> x.and(1, 3, 4));
        due(4, "and of FALSE turned and an own and", 10, () -> x.and(1, 1, 9));
        for (int assignment = 0; assignment < 4; assignment++) {
            int at = assignment;
            int a = at & 1;
            int b = at >> 1;
            due(4, "value of 6", a & (1 - b), () -> x.value(6, at));
            due(4, "value of 10", 1 - ((1 - a) & b), () -> x.value(10, at));
        }
        due(4, "side 2", BOUNDS, () -> x.and(2, 2, 2));
        due(4, "side -1", BOUNDS, () -> x.and(-1, 2, 2));
        due(4, "literal -1", BOUNDS, () -> x.and(0, -1, 2));
        due(4, "literal of the node to come", BOUNDS, () -> x.and(0, 2, 12));
        due(4, "greatest literal", ARGUMENT, () -> x.and(0, 2, 11));
        due(4, "least number", BOUNDS, () -> x.and(0, Integer.MIN_VALUE, 2));
        due(4, "greatest number", BOUNDS, () -> x.and(0, 2, Integer.MAX_VALUE));
        due(4, "side 0 of an and of side 1", ARGUMENT, () -> x.and(0, 8, 2));
        due(4, "side 1 of an and of side 0", ARGUMENT, () -> x.and(1, 2, 7));
        due(4, "bounds come before the argument", BOUNDS, () -> x.and(0, 8, 99));
        due(4, "nodes", 6, () -> x.count(0));
    }

    private static SweepEqual full() {
        SweepEqual x = new SweepEqual();
        x.input();
        x.latch(0, 0);
        for (int node = 3; node < 400; node++) {
            x.and(node & 1, 2, 4);
        }
        return x;
    }

    private static void fullOfNodes() {
        SweepEqual x = full();
        due(4, "nodes", 400, () -> x.count(0));
        due(2, "input in a full object", STATE, x::input);
        due(3, "latch in a full object", STATE, () -> x.latch(0, 0));
        due(3, "wrong latch in a full object", STATE, () -> x.latch(2, 0));
        due(4, "and in a full object", STATE, () -> x.and(0, 2, 2));
        due(4, "state comes before the argument", STATE, () -> x.and(0, 6, 6));
        due(4, "bounds come before the state", BOUNDS, () -> x.and(2, 2, 2));
        due(4, "literal 800", BOUNDS, () -> x.and(0, 2, 800));
        due(8, "first of the last", 7, () -> x.first(799));
        due(9, "classes", 4, x::classes);
        due(10, "merged(0)", 198, () -> x.merged(0));
        due(10, "merged(1)", 198, () -> x.merged(1));
        due(5, "output of the last", 0, () -> x.output(1, 799));
        due(6, "next of the last", 4, () -> x.next(1, 0, 798));
    }

    private static void outputs() {
        SweepEqual x = new SweepEqual();
        x.input();
        x.and(0, 2, 2);
        x.and(1, 2, 2);
        for (int k = 0; k < 16; k++) {
            due(5, "output " + k, k, () -> x.output(0, 5));
        }
        due(5, "seventeenth output", STATE, () -> x.output(0, 2));
        due(5, "state comes before the argument", STATE, () -> x.output(0, 6));
        due(5, "bounds come before the state", BOUNDS, () -> x.output(0, 8));
        due(5, "output of the other side", 0, () -> x.output(1, 7));
        due(5, "an and of side 0 for side 1", ARGUMENT, () -> x.output(1, 4));
        due(5, "side 2", BOUNDS, () -> x.output(2, 2));
        due(5, "literal -1", BOUNDS, () -> x.output(1, -1));
        due(5, "literal FALSE", 1, () -> x.output(1, 0));
        due(5, "how many", 2, () -> x.count(6));
    }

    private static void nexts() {
        SweepEqual x = new SweepEqual();
        x.input();
        due(6, "no latch", BOUNDS, () -> x.next(0, 0, 2));
        x.latch(0, 0);
        x.latch(0, 0);
        x.and(0, 2, 4);
        due(6, "itself at first", 6, () -> x.next(0, 1, 9));
        due(6, "what it was", 9, () -> x.next(0, 1, 3));
        due(6, "of the other side", 6, () -> x.next(1, 1, 2));
        due(6, "of the other latch", 4, () -> x.next(0, 0, 4));
        due(6, "an and of the other side", ARGUMENT, () -> x.next(1, 0, 8));
        due(6, "latch 2", BOUNDS, () -> x.next(0, 2, 2));
        due(6, "latch -1", BOUNDS, () -> x.next(0, -1, 2));
        due(6, "side -1", BOUNDS, () -> x.next(-1, 0, 2));
        due(6, "side 2", BOUNDS, () -> x.next(2, 0, 2));
        due(6, "literal 10", BOUNDS, () -> x.next(0, 0, 10));
        due(6, "bounds come before the argument", BOUNDS, () -> x.next(1, 2, 8));
        due(6, "unchanged by the wrong ones", 4, () -> x.next(1, 0, 2));
    }

    private static void sameAndFirst() {
        SweepEqual x = new SweepEqual();
        x.input();
        x.input();
        x.latch(0, 0);
        x.and(0, 3, 5);
        x.and(0, 9, 9);
        x.and(0, 8, 10);
        x.and(0, 9, 11);
        due(7, "a node and itself turned", false, () -> x.same(2, 3));
        due(7, "a node and its turned copy", true, () -> x.same(9, 10));
        due(7, "a node and its turned copy, straight", false, () -> x.same(8, 10));
        due(7, "FALSE", true, () -> x.same(12, 0));
        due(7, "TRUE", true, () -> x.same(13, 1));
        due(7, "two inputs", false, () -> x.same(2, 4));
        due(7, "input and latch", false, () -> x.same(2, 6));
        due(7, "literal 16", BOUNDS, () -> x.same(16, 0));
        due(7, "literal -1", BOUNDS, () -> x.same(0, -1));
        due(8, "turned copy", 9, () -> x.first(10));
        due(8, "turned copy turned", 8, () -> x.first(11));
        due(8, "FALSE", 0, () -> x.first(12));
        due(8, "TRUE", 1, () -> x.first(13));
        due(8, "itself", 6, () -> x.first(6));
        due(8, "a third", 0, () -> x.first(14));
        due(8, "literal 16", BOUNDS, () -> x.first(16));
        due(8, "literal -1", BOUNDS, () -> x.first(-1));
    }

    private static void firstAcrossSides() {
        SweepEqual x = new SweepEqual();
        for (int k = 0; k < 8; k++) {
            x.input();
        }
        for (int k = 0; k < 4; k++) {
            x.latch(0, 0);
        }
        // All twelve at once, and all but one assignment of the same: they part in the last assignment alone.
        for (int side = 0; side < 2; side++) {
            int all = 2;
            for (int node = 2; node <= 12; node++) {
                all = x.and(side, all, 2 * node);
            }
            int last = all;
            int want = side == 0 ? last : last - 22;
            due(8, "and of all twelve, side " + side, want, () -> x.first(last));
            due(7, "one assignment is enough to part", false, () -> x.same(last, 0));
            due(11, "hangs of all", 4095, () -> x.hangs(last));
            due(12, "ones of one assignment", 1, () -> x.ones(last));
            due(12, "ones turned", 4095, () -> x.ones(last + 1));
            due(13, "value in the last", 1, () -> x.value(last, 4095));
            due(13, "value in the one before", 0, () -> x.value(last, 4094));
        }
        x.output(0, 46);
        x.output(1, 0);
        due(15, "witness in the last assignment", 4095, () -> x.witness(0));
    }

    private static void classesAndMerged() {
        SweepEqual x = new SweepEqual();
        x.input();
        x.input();
        due(9, "FALSE and two inputs", 3, x::classes);
        x.and(0, 2, 4);
        x.and(1, 4, 2);
        due(9, "one and on both sides", 4, x::classes);
        due(10, "side 0", 0, () -> x.merged(0));
        due(10, "side 1", 1, () -> x.merged(1));
        x.and(0, 7, 7);
        x.and(0, 2, 3);
        due(9, "a turned copy and FALSE", 4, x::classes);
        due(10, "side 0 after", 2, () -> x.merged(0));
        due(10, "side 1 after", 1, () -> x.merged(1));
        x.and(0, 3, 5);
        due(9, "a new one", 5, x::classes);
        due(10, "side 2", BOUNDS, () -> x.merged(2));
        due(10, "side -1", BOUNDS, () -> x.merged(-1));
    }

    private static void hangs() {
        SweepEqual x = new SweepEqual();
        x.latch(0, 0);
        for (int k = 0; k < 8; k++) {
            x.input();
        }
        x.latch(0, 0);
        due(11, "latch 0", 256, () -> x.hangs(2));
        due(11, "latch 1 turned", 512, () -> x.hangs(21));
        for (int k = 0; k < 8; k++) {
            int input = k;
            due(11, "input " + k, 1 << k, () -> x.hangs(2 * input + 4));
        }
        int both = x.and(0, 5, 20);
        due(11, "input 0 and latch 1", 513, () -> x.hangs(both));
        int masked = x.and(0, both, 4);
        due(11, "FALSE made of them", 0, () -> x.hangs(masked));
        int back = x.and(0, 5, both + 1);
        due(11, "both still", 513, () -> x.hangs(back));
        due(11, "no such literal", BOUNDS, () -> x.hangs(back + 2));
        due(11, "literal -1", BOUNDS, () -> x.hangs(-1));
    }

    private static void ones() {
        SweepEqual x = new SweepEqual();
        x.input();
        due(12, "one input", 1, () -> x.ones(2));
        x.input();
        x.and(0, 2, 4);
        due(12, "and of two", 1, () -> x.ones(6));
        due(12, "and of two, turned", 3, () -> x.ones(7));
        x.latch(0, 0);
        due(12, "and of two of three", 2, () -> x.ones(6));
        due(12, "TRUE", 8, () -> x.ones(1));
        due(12, "FALSE", 0, () -> x.ones(0));
        due(12, "no such literal", BOUNDS, () -> x.ones(10));
        due(12, "literal -1", BOUNDS, () -> x.ones(-1));
    }

    private static void values() {
        SweepEqual x = new SweepEqual();
        x.input();
        x.latch(0, 0);
        x.and(1, 3, 4);
        due(13, "ordinary", 1, () -> x.value(6, 256));
        due(13, "turned", 0, () -> x.value(7, 256));
        due(13, "bits of what there is not", 1, () -> x.value(6, 256 + 2 + 512 + (1 << 20)));
        due(13, "all bits", 0, () -> x.value(6, -1));
        due(13, "all bits but input 0", 1, () -> x.value(6, -2));
        due(13, "least number", 0, () -> x.value(4, Integer.MIN_VALUE));
        due(13, "FALSE", 0, () -> x.value(0, -1));
        due(13, "TRUE", 1, () -> x.value(1, 0));
        due(13, "no such literal", BOUNDS, () -> x.value(8, 0));
        due(13, "literal -1", BOUNDS, () -> x.value(-1, 0));
    }

    private static void differs() {
        SweepEqual x = new SweepEqual();
        due(14, "k = -1", BOUNDS, () -> x.differs(-1));
        due(14, "least k", BOUNDS, () -> x.differs(Integer.MIN_VALUE));
        due(14, "greatest k", -1, () -> x.differs(Integer.MAX_VALUE));
        x.input();
        x.output(0, 2);
        due(14, "how many", 300, () -> x.differs(0));
        x.output(1, 3);
        due(14, "the output", 0, () -> x.differs(0));
        due(14, "no more", -1, () -> x.differs(1));
        SweepEqual y = new SweepEqual();
        y.input();
        y.output(0, y.and(0, 2, 2));
        y.output(1, 2);
        due(14, "same functions of other nodes", -1, () -> y.differs(0));
    }

    private static void differsInOrder() {
        SweepEqual x = new SweepEqual();
        x.input();
        x.latch(0, 1);
        x.latch(1, 1);
        x.latch(1, 0);
        int[] literalsA = {2, 4, 2, 6};
        int[] literalsB = {2, 5, 3, 6, 8};
        for (int literal : literalsA) {
            x.output(0, literal);
        }
        for (int literal : literalsB) {
            x.output(1, literal);
        }
        x.next(0, 1, 2);
        x.next(1, 2, 3);
        x.next(0, 0, 2);
        x.next(1, 0, 2);
        int[] want = {1, 2, 101, 102, 200, 202, 300, -1, -1};
        for (int k = 0; k < want.length; k++) {
            int at = k;
            due(14, "differs(" + k + ")", want[k], () -> x.differs(at));
        }
    }

    private static void witnesses() {
        SweepEqual x = new SweepEqual();
        x.input();
        x.input();
        x.latch(0, 1);
        x.latch(0, 0);
        int a = x.and(0, 2, 6);
        int b = x.and(1, 2, 4);
        x.output(0, a);
        x.output(1, b);
        due(15, "least assignment", 3, () -> x.witness(0));
        x.output(0, 2);
        due(15, "an output of one side alone", BOUNDS, () -> x.witness(1));
        x.output(1, 2);
        due(15, "the same", -1, () -> x.witness(1));
        due(15, "a next that is the same", -1, () -> x.witness(100));
        x.next(0, 1, 6);
        due(15, "a next that differs", 256, () -> x.witness(101));
        x.next(1, 1, 7);
        due(15, "in each assignment", 0, () -> x.witness(101));
        due(15, "no such next", BOUNDS, () -> x.witness(102));
        due(15, "99", BOUNDS, () -> x.witness(99));
        due(15, "a start", BOUNDS, () -> x.witness(200));
        due(15, "how many", BOUNDS, () -> x.witness(300));
        due(15, "-1", BOUNDS, () -> x.witness(-1));
        due(15, "greatest number", BOUNDS, () -> x.witness(Integer.MAX_VALUE));
        due(15, "least number", BOUNDS, () -> x.witness(Integer.MIN_VALUE));
    }

    private static void resets() {
        SweepEqual x = new SweepEqual();
        x.latch(1, 0);
        x.next(0, 0, 3);
        x.output(0, 2);
        x.output(1, 2);
        x.step(0);
        due(16, "state before", 0, () -> x.state(0, 0));
        due(16, "apart before", 0, x::apart);
        x.reset();
        due(16, "state", 1, () -> x.state(0, 0));
        due(16, "state of side 1", 0, () -> x.state(1, 0));
        due(16, "out", -1, () -> x.out(0, 0));
        due(16, "apart", -1, x::apart);
        due(16, "step", 1, () -> x.step(0));
        due(16, "nexts stay", 3, () -> x.next(0, 0, 2));
        due(16, "outputs stay", 1, () -> x.count(5));
    }

    private static void steps() {
        SweepEqual x = new SweepEqual();
        x.input();
        x.latch(0, 0);
        x.latch(1, 1);
        // Side 0 swaps its latches, side 1 shifts the input through: all nexts are told by the state before.
        x.next(0, 0, 6);
        x.next(0, 1, 4);
        x.next(1, 0, 2);
        x.next(1, 1, 4);
        x.output(0, 4);
        x.output(1, 6);
        due(17, "first step", 1, () -> x.step(1));
        due(17, "out of side 0", 0, () -> x.out(0, 0));
        due(17, "out of side 1", 1, () -> x.out(1, 0));
        due(17, "side 0 latch 0", 1, () -> x.state(0, 0));
        due(17, "side 0 latch 1", 0, () -> x.state(0, 1));
        due(17, "side 1 latch 0", 1, () -> x.state(1, 0));
        due(17, "side 1 latch 1", 0, () -> x.state(1, 1));
        due(17, "second step", 2, () -> x.step(0));
        due(17, "out of side 0 then", 1, () -> x.out(0, 0));
        due(17, "out of side 1 then", 0, () -> x.out(1, 0));
        due(17, "side 0 latch 1 then", 1, () -> x.state(0, 1));
        due(17, "side 1 latch 1 then", 1, () -> x.state(1, 1));
        due(17, "side 1 latch 0 then", 0, () -> x.state(1, 0));
        due(17, "third step", 3, () -> x.step(0));
    }

    private static void stepsSeeOnlyInputs() {
        SweepEqual x = new SweepEqual();
        x.input();
        x.latch(0, 0);
        x.output(0, 4);
        x.output(0, 2);
        x.step(0xF00);
        due(17, "bits past the inputs are no latches", 0, () -> x.out(0, 0));
        due(17, "input 0", 0, () -> x.out(0, 1));
        due(17, "the state stays", 0, () -> x.state(0, 0));
        x.step(-1);
        due(17, "all bits", 1, () -> x.out(0, 1));
        due(17, "all bits are no latches", 0, () -> x.out(0, 0));
        due(17, "the state stays still", 0, () -> x.state(0, 0));
    }

    private static void outs() {
        SweepEqual x = new SweepEqual();
        x.input();
        x.output(0, 2);
        due(18, "without a step", -1, () -> x.out(0, 0));
        x.step(1);
        due(18, "in the step", 1, () -> x.out(0, 0));
        x.output(0, 1);
        due(18, "not there then", -1, () -> x.out(0, 1));
        x.step(0);
        due(18, "in the latest step", 0, () -> x.out(0, 0));
        due(18, "there now", 1, () -> x.out(0, 1));
        due(18, "no such output", BOUNDS, () -> x.out(0, 2));
        due(18, "no output of side 1", BOUNDS, () -> x.out(1, 0));
        due(18, "output -1", BOUNDS, () -> x.out(0, -1));
        due(18, "side 2", BOUNDS, () -> x.out(2, 0));
        due(18, "side -1", BOUNDS, () -> x.out(-1, 0));
    }

    private static void states() {
        SweepEqual x = new SweepEqual();
        x.latch(1, 0);
        due(19, "side 0", 1, () -> x.state(0, 0));
        due(19, "side 1", 0, () -> x.state(1, 0));
        x.next(0, 0, 0);
        due(19, "a next alone changes nothing", 1, () -> x.state(0, 0));
        x.step(0);
        due(19, "after a step", 0, () -> x.state(0, 0));
        due(19, "itself at first", 0, () -> x.state(1, 0));
        due(19, "latch 1", BOUNDS, () -> x.state(0, 1));
        due(19, "latch -1", BOUNDS, () -> x.state(0, -1));
        due(19, "side 2", BOUNDS, () -> x.state(2, 0));
        due(19, "side -1", BOUNDS, () -> x.state(-1, 0));
    }

    private static void aparts() {
        SweepEqual x = new SweepEqual();
        x.input();
        x.output(0, 2);
        x.output(1, 0);
        due(20, "without a step", -1, x::apart);
        x.step(0);
        due(20, "alike in step 0", -1, x::apart);
        x.step(1);
        due(20, "not alike in step 1", 1, x::apart);
        x.step(0);
        x.step(1);
        due(20, "the first stays", 1, x::apart);
        x.reset();
        x.step(1);
        due(20, "since reset", 0, x::apart);
    }

    private static void apartCountsOnlySharedOutputs() {
        SweepEqual x = new SweepEqual();
        x.input();
        x.output(0, 2);
        x.output(0, 1);
        x.output(1, 2);
        x.step(1);
        due(20, "an output of one side alone", -1, x::apart);
        x.output(1, 0);
        due(20, "an output that was not there then", -1, x::apart);
        x.step(1);
        due(20, "an output that both have", 1, x::apart);
    }

    private static void counts() {
        SweepEqual x = new SweepEqual();
        x.input();
        x.latch(0, 0);
        x.latch(0, 0);
        x.input();
        x.input();
        x.and(0, 2, 4);
        for (int k = 0; k < 4; k++) {
            x.and(1, 2, 4);
        }
        for (int k = 0; k < 5; k++) {
            x.output(0, 2);
        }
        for (int k = 0; k < 6; k++) {
            x.output(1, 2);
        }
        int[] want = {11, 3, 2, 1, 4, 5, 6};
        for (int what = 0; what < want.length; what++) {
            int w = what;
            due(21, "count(" + what + ")", want[what], () -> x.count(w));
        }
        due(21, "count(7)", BOUNDS, () -> x.count(7));
        due(21, "count(-1)", BOUNDS, () -> x.count(-1));
    }

    private static void clears() {
        SweepEqual x = new SweepEqual();
        x.input();
        x.latch(1, 1);
        x.and(0, 2, 4);
        x.and(1, 2, 2);
        x.output(0, 6);
        x.output(0, 2);
        x.output(1, 8);
        x.next(0, 0, 3);
        x.step(1);
        x.clear();
        dueNew(22, x);
        x.clear();
        due(22, "the first input again", 2, x::input);
        due(22, "the first latch again", 4, () -> x.latch(0, 0));
        due(22, "its start", 0, () -> x.state(0, 0));
        due(22, "its next", 4, () -> x.next(0, 0, 2));
        due(22, "an and of side 1 where one of side 0 was", 6, () -> x.and(1, 3, 5));
        due(22, "its side", ARGUMENT, () -> x.output(0, 6));
        due(22, "its first", 6, () -> x.first(6));
        due(22, "its value", 1, () -> x.value(6, 0));
        due(22, "the first output again", 0, () -> x.output(0, 2));
        due(22, "no step yet", -1, () -> x.out(0, 0));
    }

    private static void clearAfterFull() {
        SweepEqual x = full();
        x.clear();
        dueNew(22, x);
        due(22, "room again", 2, x::input);
        due(22, "room for an and", 4, () -> x.and(0, 3, 3));
        due(22, "first of it", 3, () -> x.first(4));
    }

    private static void throwsChangeNothing() {
        SweepEqual x = new SweepEqual();
        x.input();
        x.latch(0, 1);
        int a = x.and(0, 2, 4);
        x.output(0, a);
        x.output(1, 2);
        x.step(1);
        due(4, "wrong and", ARGUMENT, () -> x.and(1, a, 2));
        due(5, "wrong output", ARGUMENT, () -> x.output(1, a));
        due(6, "wrong next", ARGUMENT, () -> x.next(1, 0, a));
        due(3, "wrong latch", ARGUMENT, () -> x.latch(0, 2));
        due(21, "nodes", 4, () -> x.count(0));
        due(21, "outputs", 1, () -> x.count(6));
        due(6, "next stays", 4, () -> x.next(1, 0, 4));
        due(18, "out stays", 0, () -> x.out(0, 0));
        due(20, "apart stays", 0, x::apart);
        due(17, "steps go on", 2, () -> x.step(1));
    }
}

import java.util.ArrayList;
import java.util.List;

/** Long runs of calls, the same ones each time, with every answer held against a slow model. */
public final class SweepEqualAgainstModel {
    private static final int RUNS = 400;
    private static final int CALLS = 512;
    private static final int KINDS = 21;
    private static final String[] NAMES = {
        "input", "latch", "and", "output", "next", "same", "first", "classes", "merged", "hangs", "ones", "value",
        "differs", "witness", "reset", "step", "out", "state", "apart", "count", "clear"
    };
    private static final int INPUT = 0;
    private static final int LATCH = 1;
    private static final int AND = 2;
    private static final int CLEAR = 20;
    private static final int[] HARD = {
        Integer.MIN_VALUE, Integer.MIN_VALUE + 1, -4096, -256, -2, -1, 1 << 30, Integer.MAX_VALUE - 1, Integer.MAX_VALUE
    };

    /** Numbers from a fixed seed, so that each run of the test makes the same calls. */
    private static final class Numbers {
        private long seed;

        Numbers(long seed) {
            this.seed = seed * 0x9E3779B97F4A7C15L + 1;
        }

        int below(int bound) {
            seed = seed * 6364136223846793005L + 1442695040888963407L;
            return (int) ((seed >>> 33) % bound);
        }
    }

    /** What the document's words say, each value worked out from the gates anew. */
    private static final class Model {
        static final class Node {
            int side = -1;
            int bit = -1;
            int a;
            int b;
        }

        static final class Side {
            final List<Integer> outputs = new ArrayList<>();
            final List<Integer> starts = new ArrayList<>();
            final List<Integer> nexts = new ArrayList<>();
            List<Integer> states = new ArrayList<>();
            List<Integer> shown = new ArrayList<>();
        }

        final List<Node> nodes = new ArrayList<>();
        final Side[] sides = {new Side(), new Side()};
        int inputs;
        int latches;
        int steps;
        int apart = -1;

        Model() {
            nodes.add(new Node());
        }

        int valueOf(int literal, int assignment) {
            int[] values = new int[literal / 2 + 1];
            for (int n = 1; n < values.length; n++) {
                Node node = nodes.get(n);
                if (node.bit >= 0) {
                    values[n] = assignment >> node.bit & 1;
                } else {
                    values[n] = (values[node.a / 2] ^ node.a % 2) & (values[node.b / 2] ^ node.b % 2);
                }
            }
            return values[literal / 2] ^ literal % 2;
        }

        List<Integer> assignments() {
            List<Integer> all = new ArrayList<>();
            for (int latchBits = 0; latchBits < 1 << latches; latchBits++) {
                for (int inputBits = 0; inputBits < 1 << inputs; inputBits++) {
                    all.add(latchBits << 8 | inputBits);
                }
            }
            return all;
        }

        boolean areSame(int a, int b) {
            return leastDifference(a, b) < 0;
        }

        int leastDifference(int a, int b) {
            for (int assignment : assignments()) {
                if (valueOf(a, assignment) != valueOf(b, assignment)) {
                    return assignment;
                }
            }
            return -1;
        }

        int firstOf(int literal) {
            for (int other = 0; other < literal - literal % 2; other++) {
                if (areSame(other, literal)) {
                    return other;
                }
            }
            return literal;
        }

        int hangsOf(int literal) {
            int bits = 0;
            for (int bit = 0; bit < 12; bit++) {
                for (int assignment : assignments()) {
                    if (valueOf(literal, assignment) != valueOf(literal, assignment ^ 1 << bit)) {
                        bits |= 1 << bit;
                        break;
                    }
                }
            }
            return bits;
        }

        int onesOf(int literal) {
            int found = 0;
            for (int assignment : assignments()) {
                found += valueOf(literal, assignment);
            }
            return found;
        }

        int ands(int side, boolean onlyMerged) {
            int found = 0;
            for (int n = 0; n < nodes.size(); n++) {
                if (nodes.get(n).side == side && !(onlyMerged && firstOf(2 * n) == 2 * n)) {
                    found++;
                }
            }
            return found;
        }

        int classCount() {
            int found = 0;
            for (int n = 0; n < nodes.size(); n++) {
                if (firstOf(2 * n) == 2 * n) {
                    found++;
                }
            }
            return found;
        }

        List<Integer> different() {
            List<Integer> things = new ArrayList<>();
            Side a = sides[0];
            Side b = sides[1];
            for (int k = 0; k < shared(); k++) {
                if (!areSame(a.outputs.get(k), b.outputs.get(k))) {
                    things.add(k);
                }
            }
            for (int k = 0; k < latches; k++) {
                if (!areSame(a.nexts.get(k), b.nexts.get(k))) {
                    things.add(100 + k);
                }
            }
            for (int k = 0; k < latches; k++) {
                if (a.starts.get(k).intValue() != b.starts.get(k)) {
                    things.add(200 + k);
                }
            }
            if (a.outputs.size() != b.outputs.size()) {
                things.add(300);
            }
            return things;
        }

        int shared() {
            return Math.min(sides[0].outputs.size(), sides[1].outputs.size());
        }

        int add(int side, int bit, int a, int b) {
            Node node = new Node();
            node.side = side;
            node.bit = bit;
            node.a = a;
            node.b = b;
            nodes.add(node);
            return 2 * nodes.size() - 2;
        }

        void reset() {
            for (Side side : sides) {
                side.states = new ArrayList<>(side.starts);
                side.shown = new ArrayList<>();
            }
            steps = 0;
            apart = -1;
        }

        int step(int given) {
            for (Side side : sides) {
                int assignment = 0;
                for (int k = 0; k < inputs; k++) {
                    assignment |= (given >> k & 1) << k;
                }
                for (int k = 0; k < latches; k++) {
                    assignment |= side.states.get(k) << 8 + k;
                }
                side.shown = new ArrayList<>();
                for (int literal : side.outputs) {
                    side.shown.add(valueOf(literal, assignment));
                }
                List<Integer> after = new ArrayList<>();
                for (int literal : side.nexts) {
                    after.add(valueOf(literal, assignment));
                }
                side.states = after;
            }
            for (int k = 0; k < shared() && apart < 0; k++) {
                if (sides[0].shown.get(k).intValue() != sides[1].shown.get(k)) {
                    apart = steps;
                }
            }
            steps++;
            return steps;
        }

        void needLiteral(int literal) {
            if (literal < 0 || literal >= 2 * nodes.size()) {
                throw new IndexOutOfBoundsException();
            }
        }

        void needSide(int side) {
            if (side < 0 || side > 1) {
                throw new IndexOutOfBoundsException();
            }
        }

        void needLatch(int latch) {
            if (latch < 0 || latch >= latches) {
                throw new IndexOutOfBoundsException();
            }
        }

        void needOwn(int side, int literal) {
            if (nodes.get(literal / 2).side == 1 - side) {
                throw new IllegalArgumentException();
            }
        }

        void needState(boolean good) {
            if (!good) {
                throw new IllegalStateException();
            }
        }

        int latch(int startA, int startB) {
            needState(latches < 4 && nodes.size() < 400);
            if (startA < 0 || startA > 1 || startB < 0 || startB > 1) {
                throw new IllegalArgumentException();
            }
            int literal = add(-1, 8 + latches, 0, 0);
            latches++;
            sides[0].starts.add(startA);
            sides[1].starts.add(startB);
            sides[0].nexts.add(literal);
            sides[1].nexts.add(literal);
            reset();
            return literal;
        }

        int witness(int thing) {
            if (thing >= 0 && thing < shared()) {
                return leastDifference(sides[0].outputs.get(thing), sides[1].outputs.get(thing));
            }
            needLatch(thing - 100);
            return leastDifference(sides[0].nexts.get(thing - 100), sides[1].nexts.get(thing - 100));
        }

        int count(int what) {
            switch (what) {
                case 0: return nodes.size();
                case 1: return inputs;
                case 2: return latches;
                case 3: return ands(0, false);
                case 4: return ands(1, false);
                case 5: return sides[0].outputs.size();
                case 6: return sides[1].outputs.size();
                default: throw new IndexOutOfBoundsException();
            }
        }

        int change(int kind, int p, int q, int r) {
            switch (kind) {
                case 0:
                    needState(inputs < 8 && nodes.size() < 400);
                    inputs++;
                    return add(-1, inputs - 1, 0, 0);
                case 1:
                    return latch(p, q);
                case 2:
                    needSide(p);
                    needLiteral(q);
                    needLiteral(r);
                    needState(nodes.size() < 400);
                    needOwn(p, q);
                    needOwn(p, r);
                    return add(p, -1, q, r);
                case 3:
                    needSide(p);
                    needLiteral(q);
                    needState(sides[p].outputs.size() < 16);
                    needOwn(p, q);
                    sides[p].outputs.add(q);
                    return sides[p].outputs.size() - 1;
                default:
                    needSide(p);
                    needLatch(q);
                    needLiteral(r);
                    needOwn(p, r);
                    return sides[p].nexts.set(q, r);
            }
        }

        int ask(int kind, int p, int q) {
            if (kind == 5 || kind == 6 || kind >= 9 && kind <= 11) {
                needLiteral(p);
            }
            switch (kind) {
                case 5:
                    needLiteral(q);
                    return areSame(p, q) ? 1 : 0;
                case 6: return firstOf(p);
                case 7: return classCount();
                case 8:
                    needSide(p);
                    return ands(p, true);
                case 9: return hangsOf(p);
                case 10: return onesOf(p);
                case 11: return valueOf(p, q);
                case 12:
                    if (p < 0) {
                        throw new IndexOutOfBoundsException();
                    }
                    return p < different().size() ? different().get(p) : -1;
                default: return witness(p);
            }
        }

        int clock(int kind, int p, int q) {
            switch (kind) {
                case 14:
                    reset();
                    return 0;
                case 15: return step(p);
                case 16:
                    needSide(p);
                    if (q < 0 || q >= sides[p].outputs.size()) {
                        throw new IndexOutOfBoundsException();
                    }
                    return q < sides[p].shown.size() ? sides[p].shown.get(q) : -1;
                case 17:
                    needSide(p);
                    needLatch(q);
                    return sides[p].states.get(q);
                case 18: return apart;
                default: return count(p);
            }
        }
    }

    private static int answer(SweepEqual x, int kind, int p, int q, int r) {
        switch (kind) {
            case 0: return x.input();
            case 1: return x.latch(p, q);
            case 2: return x.and(p, q, r);
            case 3: return x.output(p, q);
            case 4: return x.next(p, q, r);
            case 5: return x.same(p, q) ? 1 : 0;
            case 6: return x.first(p);
            case 7: return x.classes();
            case 8: return x.merged(p);
            case 9: return x.hangs(p);
            case 10: return x.ones(p);
            case 11: return x.value(p, q);
            case 12: return x.differs(p);
            case 13: return x.witness(p);
            case 14: x.reset(); return 0;
            case 15: return x.step(p);
            case 16: return x.out(p, q);
            case 17: return x.state(p, q);
            case 18: return x.apart();
            case 19: return x.count(p);
            default: x.clear(); return 0;
        }
    }

    private static int due(Model model, int kind, int p, int q, int r) {
        return kind <= 4 ? model.change(kind, p, q, r) : kind <= 13 ? model.ask(kind, p, q) : model.clock(kind, p, q);
    }

    /** What a run is like: how many variables it may have, and how often it adds nodes. */
    private static int pickKind(Numbers numbers, Model model, int mostVariables, int addsOfTen) {
        if (numbers.below(10) < addsOfTen) {
            return AND;
        }
        int kind = numbers.below(KINDS);
        boolean variable = kind == INPUT || kind == LATCH;
        if (variable && model.inputs + model.latches >= mostVariables && numbers.below(20) != 0) {
            return AND;
        }
        return kind == CLEAR && numbers.below(8) != 0 ? 15 : kind;
    }

    private static int[] pickArguments(Numbers numbers, Model model, int kind) {
        int side = numbers.below(25) == 0 ? numbers.below(5) - 2 : numbers.below(2);
        int a = pickLiteral(numbers, model, side);
        int b = pickLiteral(numbers, model, side);
        int latch = numbers.below(10) == 0 ? numbers.below(8) - 2 : numbers.below(Math.max(1, model.latches));
        switch (kind) {
            case 1: return new int[] {pickStart(numbers), pickStart(numbers), 0};
            case 2: return new int[] {side, a, b};
            case 3: return new int[] {side, a, 0};
            case 4: return new int[] {side, latch, a};
            case 8: return new int[] {side, 0, 0};
            case 11: return new int[] {a, numbers.below(3) == 0 ? -numbers.below(9999) : numbers.below(9999), 0};
            case 12: return new int[] {numbers.below(12) - 1, 0, 0};
            case 13: return new int[] {100 * numbers.below(4) + numbers.below(8) - 1, 0, 0};
            case 15: return new int[] {numbers.below(2) == 0 ? -numbers.below(9999) : numbers.below(9999), 0, 0};
            case 16: return new int[] {side, numbers.below(19) - 1, 0};
            case 17: return new int[] {side, latch, 0};
            case 19: return new int[] {numbers.below(9) - 1, 0, 0};
            default: return new int[] {a, b, 0};
        }
    }

    /** Now and then one of the arguments is as small or as large as numbers get. */
    private static int[] hardened(Numbers numbers, int[] arguments) {
        if (numbers.below(40) == 0) {
            arguments[numbers.below(arguments.length)] = HARD[numbers.below(HARD.length)];
        }
        return arguments;
    }

    private static int pickStart(Numbers numbers) {
        return numbers.below(10) == 0 ? numbers.below(5) - 2 : numbers.below(2);
    }

    /** Mostly a literal that the side may use, so that designs grow; now and then any number. */
    private static int pickLiteral(Numbers numbers, Model model, int side) {
        int literals = 2 * model.nodes.size();
        if (numbers.below(30) == 0) {
            return numbers.below(literals + 8) - 4;
        }
        for (int tries = 0; tries < 10; tries++) {
            int literal = numbers.below(literals);
            if (model.nodes.get(literal / 2).side != 1 - side) {
                return literal;
            }
        }
        return numbers.below(literals);
    }

    private static String told(int kind, int[] arguments, Model model, SweepEqual x) {
        try {
            int got = x != null ? answer(x, kind, arguments[0], arguments[1], arguments[2])
                    : due(model, kind, arguments[0], arguments[1], arguments[2]);
            return Integer.toString(got);
        } catch (RuntimeException e) {
            return e.getClass().getSimpleName();
        }
    }

    private static int wrongInRun(int run, int[] answered) {
        Numbers numbers = new Numbers(run);
        int mostVariables = run % 40 == 0 ? 12 : 1 + numbers.below(6);
        int addsOfTen = run % 10 == 1 ? 9 : numbers.below(5);
        SweepEqual x = new SweepEqual();
        Model model = new Model();
        int calls = run % 40 == 0 ? 150 : CALLS;
        for (int call = 0; call < calls; call++) {
            int kind = call < mostVariables ? numbers.below(2) : pickKind(numbers, model, mostVariables, addsOfTen);
            int[] arguments = hardened(numbers, pickArguments(numbers, model, kind));
            String want = "0";
            if (kind == CLEAR) {
                model = new Model();
            } else {
                want = told(kind, arguments, model, null);
            }
            String got = told(kind, arguments, model, x);
            if (!want.endsWith("Exception")) {
                answered[kind]++;
            }
            if (!got.equals(want)) {
                System.out.println("run " + run + " call " + call + ": " + NAMES[kind] + "(" + arguments[0] + ", "
                        + arguments[1] + ", " + arguments[2] + ") answered " + got + ", due is " + want);
                return 1;
            }
        }
        return 0;
    }

    public static void main(String[] args) {
        int wrong = 0;
        int[] answered = new int[KINDS];
        for (int run = 0; run < RUNS; run++) {
            wrong += wrongInRun(run, answered);
        }
        for (int kind = 0; kind < KINDS; kind++) {
            if (answered[kind] < 100) {
                wrong++;
                System.out.println(NAMES[kind] + " was answered only " + answered[kind] + " times");
            }
        }
        System.out.println(wrong == 0 ? RUNS + " runs are as the model's" : wrong + " runs are not as the model's");
        if (wrong != 0) {
            System.exit(1);
        }
    }
}

import java.util.Random;

/** Long runs of mixed calls: the class must answer as the Model does, and tell the same codes. */
public final class ModelTest {
    private static final int RUNS = 600;
    private static final int CALLS = 250;
    private static final String[] NAMES = {"array", "things", "rows", "grid", "about", "row", "setRow", "read", "write",
        "place", "pin", "column", "widens", "fill", "move", "copy", "deep", "sort", "search", "same", "hash", "decide",
        "candidate", "span", "choose", "decision", "candidateOf", "rule", "amount", "score", "best", "mark", "back", "count"};
    /** Of runs with all calls alike. */
    private static final int[] WIDE = {4, 3, 3, 1, 2, 2, 8, 10, 22, 3, 3, 2, 1, 6, 8, 2, 2, 4, 4, 4, 4, 5, 10, 4, 4, 3,
        2, 5, 6, 3, 2, 3, 3, 3};
    /** Of runs with few arrays, in which DECISIONS and RULES meet. */
    private static final int[] NARROW = {1, 1, 0, 0, 1, 0, 0, 3, 14, 1, 2, 1, 0, 3, 2, 0, 0, 1, 1, 1, 2, 10, 40, 12, 6, 6,
        2, 8, 8, 6, 12, 3, 3, 3};

    private final Random random;
    private final DecisionArrays real = new DecisionArrays();
    private final Model model = new Model();
    private final StringBuilder told = new StringBuilder();
    private final int roughness;
    private final int[] weights;
    private int code = 0;

    private ModelTest(long seed) {
        random = new Random(seed);
        roughness = seed % 3 == 0 ? 4 : 25;
        weights = seed % 2 == 0 ? WIDE : NARROW;
    }

    public static void main(String[] args) {
        int wrong = 0;
        long[] fine = new long[NAMES.length];
        long[][] codes = new long[NAMES.length][10];
        int runs = args.length > 0 ? Integer.parseInt(args[0]) : RUNS;
        for (int seed = 0; seed < runs && wrong < 5; seed++) {
            ModelTest test = new ModelTest(seed);
            if (!test.run(fine, codes)) {
                wrong++;
                System.out.println("seed " + seed + ":\n" + test.told);
            }
        }
        if (args.length > 0) {
            for (int call = 0; call < NAMES.length; call++) {
                System.out.println(NAMES[call] + " " + fine[call] + " " + java.util.Arrays.toString(codes[call]));
            }
        }
        System.out.println(runs + " runs of " + CALLS + " calls, " + wrong + " not as the model's");
        if (wrong > 0) {
            System.exit(1);
        }
    }

    private boolean run(long[] fine, long[][] codes) {
        for (int i = 0; i < CALLS; i++) {
            int call = pick();
            if (!answersAlike(call)) {
                return false;
            }
            if (code == 0) {
                fine[call]++;
            } else {
                codes[call][code]++;
            }
        }
        return true;
    }

    private int pick() {
        int total = 0;
        for (int weight : weights) {
            total += weight;
        }
        int at = random.nextInt(total);
        int call = 0;
        while (at >= weights[call]) {
            at -= weights[call];
            call++;
        }
        return call;
    }

    private boolean answersAlike(int call) {
        long[] p = arguments(NAMES[call]);
        long due;
        int codeDue = NAMES[call].equals("score") ? code : 0;
        try {
            due = modelAnswer(NAMES[call], p);
        } catch (Model.Code e) {
            codeDue = e.code;
            due = withCode(NAMES[call], e.code);
        }
        long got = realAnswer(NAMES[call], p);
        code = real.code();
        told.append(NAMES[call]).append(java.util.Arrays.toString(p)).append(" answered ").append(got).append(" code ")
            .append(code).append('\n');
        if (got == due && code == codeDue) {
            return true;
        }
        told.append("due is ").append(due).append(" code ").append(codeDue).append('\n');
        return false;
    }

    private static long withCode(String name, int code) {
        switch (name) {
            case "row": return -1;
            case "read": case "hash": case "amount": case "candidateOf": return 0;
            default: return -code;
        }
    }

    // arguments: mostly such as make sense, now and then any

    private boolean rough() {
        return random.nextInt(roughness) == 0;
    }

    private long of(long... values) {
        return values[random.nextInt(values.length)];
    }

    private long anyInt() {
        return of(-2, -1, 0, 1, 2, 3, 5, 9, 61, 199, 200, 201, Integer.MAX_VALUE, Integer.MIN_VALUE);
    }

    private long below(int n) {
        return rough() || n < 1 ? anyInt() : random.nextInt(n);
    }

    private long anArray() {
        return below(model.arrays.size());
    }

    private Object at(long a) {
        return a >= 0 && a < model.arrays.size() ? model.arrays.get((int) a) : null;
    }

    private int depthOf(long a) {
        return at(a) == null ? 1 : model.depth(at(a));
    }

    private int kindOf(long a) {
        return at(a) == null ? 4 : model.kind(at(a));
    }

    private long arrayOfDepth(int depth) {
        long a = anArray();
        for (int turn = 0; turn < 5 && depthOf(a) != depth; turn++) {
            a = anArray();
        }
        return a;
    }

    private long flat() {
        return arrayOfDepth(1);
    }

    private long place(long a) {
        return at(a) == null ? anyInt() : below(Model.length(at(a)));
    }

    private long size() {
        if (rough()) {
            return anyInt();
        }
        return random.nextInt(20) == 0 ? random.nextInt(201) : random.nextInt(6);
    }

    private long bits(int kind) {
        if (rough()) {
            return random.nextBoolean() ? random.nextLong() : of(-129, -1, 2, 128, 65536, 1001, 1L << 31, 1L << 40);
        }
        switch (kind) {
            case 0: return random.nextInt(2);
            case 1: return of(0, 1, 2, 3, 65535, random.nextInt(65536));
            case 2: return of(0, 1, 2, -1, -128, 127, random.nextInt(256) - 128);
            case 3: return of(0, 1, 2, -1, -32768, 32767, random.nextInt(65536) - 32768);
            case 4: return of(0, 1, 2, -1, Integer.MIN_VALUE, Integer.MAX_VALUE, random.nextInt(), 16777217, 33554435);
            case 5: return of(0, 1, 2, -1, Long.MIN_VALUE, Long.MAX_VALUE, random.nextLong() >> random.nextInt(64));
            case 6: return of(0, Integer.MIN_VALUE, 0x7F800000, 0xFF800000, 0x7FC00000, 0x7F800001, -1, 1, random.nextInt(),
                random.nextInt() & 0x807FFFFF, Float.floatToIntBits((float) random.nextGaussian() * 1000),
                Float.floatToIntBits(random.nextInt(3)), Float.floatToIntBits(random.nextLong() * 2f));
            case 7: return of(0, Long.MIN_VALUE, 0x7FF0000000000000L, 0xFFF0000000000000L, 0x7FF8000000000000L, -1, 1,
                random.nextLong(), Double.doubleToLongBits(random.nextGaussian() * 1000),
                Double.doubleToLongBits(random.nextInt(3)), Double.doubleToLongBits(random.nextLong() * 2.0));
            default: return random.nextInt(3) == 0 ? random.nextInt(1001) : random.nextInt(9);
        }
    }

    private int narrower(int kind) {
        int from = random.nextInt(9);
        for (int turn = 0; turn < 12 && !Model.widening(from, kind); turn++) {
            from = random.nextInt(9);
        }
        return rough() ? random.nextInt(11) - 1 : from;
    }

    private int wider(int kind) {
        int to = random.nextInt(9);
        for (int turn = 0; turn < 12 && !Model.widening(kind, to); turn++) {
            to = random.nextInt(9);
        }
        return rough() ? random.nextInt(11) - 1 : to;
    }

    /** a, i, j, k, l, and as many more as are told. */
    private long[] path(int more) {
        long[] p = new long[5 + more];
        p[0] = random.nextInt(3) > 0 ? flat() : anArray();
        long here = p[0];
        for (int step = 1; step <= 4; step++) {
            p[step] = place(here);
            Object array = at(here);
            boolean row = array != null && depthOf(here) > 1 && p[step] >= 0 && p[step] < Model.length(array);
            here = row ? model.row((int) here, (int) p[step]) : -1;
        }
        return p;
    }

    private long[] range(long a) {
        int length = at(a) == null ? 5 : Model.length(at(a));
        int from = random.nextInt(length + 1);
        long to = from + random.nextInt(length - from + 1);
        return new long[] {rough() ? anyInt() : from, rough() ? anyInt() : to};
    }

    private int kindToDecide(long d) {
        return d >= 0 && d < model.decisions.size() ? model.kind(model.decisions.get((int) d).array) : 4;
    }

    private long candidateNumber(long d) {
        return d >= 0 && d < model.decisions.size() ? below(model.decisions.get((int) d).candidates.size()) : anyInt();
    }

    private long[] arguments(String name) {
        long a;
        long[] p;
        switch (name) {
            case "array": return new long[] {below(9), size()};
            case "things": return new long[] {below(random.nextInt(2) == 0 ? 2 : 7), size()};
            case "rows": return new long[] {anArray(), size()};
            case "grid": return new long[] {below(8), 1 + below(4), below(4), below(4), below(4), below(4)};
            case "about": return new long[] {anArray(), below(6)};
            case "row": a = arrayOfDepth(2); return new long[] {a, place(a)};
            case "setRow": return rowArguments();
            case "read": p = path(1); p[5] = wider(kindOf(p[0])); return p;
            case "write": p = path(2); p[5] = narrower(kindOf(p[0])); p[6] = bits((int) p[5]); return p;
            case "place": case "decide": return path(0);
            case "pin": p = path(1); p[5] = random.nextInt(2); return p;
            case "column": return new long[] {below(9), below(30)};
            case "widens": return new long[] {below(9), below(9)};
            case "fill": return fillArguments();
            case "move": return moveArguments();
            case "copy": return new long[] {anArray(), size()};
            case "deep": case "hash": return new long[] {anArray()};
            case "sort": a = flat(); p = range(a); return new long[] {a, p[0], p[1]};
            case "search": return searchArguments();
            case "same": return sameArguments();
            case "candidate": a = below(model.decisions.size()); return new long[] {a, bits(kindToDecide(a))};
            case "span": return spanArguments();
            case "choose": case "candidateOf": a = below(model.decisions.size()); return new long[] {a, candidateNumber(a)};
            case "decision": return new long[] {below(model.decisions.size()), below(4)};
            case "rule": return ruleArguments();
            case "amount": return new long[] {below(model.rules.size())};
            case "count": return new long[] {below(6)};
            default: return new long[0];
        }
    }

    private long[] rowArguments() {
        long a = arrayOfDepth(2 + random.nextInt(3));
        long r = anArray();
        Object above = at(a);
        for (int turn = 0; turn < 20 && above != null && depthOf(a) > 1; turn++) {
            Object below = at(r);
            if (below != null && below.getClass() == above.getClass().getComponentType()) {
                break;
            }
            r = anArray();
        }
        return new long[] {a, place(a), random.nextInt(8) == 0 ? -1 : r};
    }

    private long[] fillArguments() {
        long a = flat();
        long[] p = range(a);
        int writer = narrower(kindOf(a));
        return new long[] {a, p[0], p[1], writer, bits(writer)};
    }

    private long[] moveArguments() {
        long a = anArray();
        long b = anArray();
        for (int turn = 0; turn < 20 && (kindOf(a) != kindOf(b) || depthOf(a) != depthOf(b)); turn++) {
            b = anArray();
        }
        int room = Math.min(at(a) == null ? 3 : Model.length(at(a)), at(b) == null ? 3 : Model.length(at(b)));
        return new long[] {a, random.nextInt(3) == 0 ? place(a) : 0, b, random.nextInt(3) == 0 ? place(b) : 0, below(room + 1)};
    }

    private long[] searchArguments() {
        long a = flat();
        Object array = at(a);
        boolean there = array != null && depthOf(a) == 1 && Model.length(array) > 0 && random.nextInt(2) == 0;
        long bits = bits(kindOf(a));
        if (there) {
            bits = model.read((int) a, random.nextInt(Model.length(array)), 0, 0, 0, kindOf(a));
        }
        return new long[] {a, bits};
    }

    private long[] sameArguments() {
        long a = anArray();
        long b = anArray();
        for (int turn = 0; turn < 20 && (a == b || kindOf(a) != kindOf(b) || depthOf(a) != depthOf(b)); turn++) {
            b = anArray();
        }
        return new long[] {a, b};
    }

    private long[] spanArguments() {
        long d = below(model.decisions.size());
        long low = bits(kindToDecide(d));
        long step = rough() ? bits(5) : 1 + random.nextInt(3);
        return new long[] {d, low, rough() ? bits(kindToDecide(d)) : low + step * random.nextInt(5), step};
    }

    private long[] ruleArguments() {
        long a = flat();
        long sort = below(6);
        long low = sort == 3 ? bits(kindOf(a)) : of(0, 1, 5, 100, bits(5));
        return new long[] {sort, a, rough() ? of(-1001, 1001, 1000) : random.nextInt(2001) - 1000, low, of(0, 1, 2, 10, bits(5))};
    }

    private static int n(long[] p, int at) {
        return (int) p[at];
    }

    private long modelAnswer(String name, long[] p) {
        switch (name) {
            case "array": return model.array(n(p, 0), n(p, 1));
            case "things": return model.things(n(p, 0), n(p, 1));
            case "rows": return model.rows(n(p, 0), n(p, 1));
            case "grid": return model.grid(n(p, 0), n(p, 1), n(p, 2), n(p, 3), n(p, 4), n(p, 5));
            case "about": return model.about(n(p, 0), n(p, 1));
            case "row": return model.row(n(p, 0), n(p, 1));
            case "setRow": return model.setRow(n(p, 0), n(p, 1), n(p, 2));
            case "read": return model.read(n(p, 0), n(p, 1), n(p, 2), n(p, 3), n(p, 4), n(p, 5));
            case "write": return model.write(n(p, 0), n(p, 1), n(p, 2), n(p, 3), n(p, 4), n(p, 5), p[6]);
            case "place": return model.place(n(p, 0), n(p, 1), n(p, 2), n(p, 3), n(p, 4));
            case "pin": return model.pin(n(p, 0), n(p, 1), n(p, 2), n(p, 3), n(p, 4), p[5] == 1);
            case "column": return model.column(n(p, 0), n(p, 1));
            case "widens": return model.widens(n(p, 0), n(p, 1));
            case "fill": return model.fill(n(p, 0), n(p, 1), n(p, 2), n(p, 3), p[4]);
            case "move": return model.move(n(p, 0), n(p, 1), n(p, 2), n(p, 3), n(p, 4));
            case "copy": return model.copy(n(p, 0), n(p, 1));
            case "deep": return model.deep(n(p, 0));
            case "sort": return model.sort(n(p, 0), n(p, 1), n(p, 2));
            case "search": return model.search(n(p, 0), p[1]);
            case "same": return model.same(n(p, 0), n(p, 1));
            case "hash": return model.hash(n(p, 0));
            case "decide": return model.decide(n(p, 0), n(p, 1), n(p, 2), n(p, 3), n(p, 4));
            case "candidate": return model.candidate(n(p, 0), p[1]);
            case "span": return model.span(n(p, 0), p[1], p[2], p[3]);
            case "choose": return model.choose(n(p, 0), n(p, 1));
            case "decision": return model.decision(n(p, 0), n(p, 1));
            case "candidateOf": return model.candidateOf(n(p, 0), n(p, 1));
            case "rule": return model.rule(n(p, 0), n(p, 1), n(p, 2), p[3], p[4]);
            case "amount": return model.amount(n(p, 0));
            case "score": return model.score();
            case "best": return model.best();
            case "mark": return model.mark();
            case "back": return model.back();
            default: return model.count(n(p, 0));
        }
    }

    private long realAnswer(String name, long[] p) {
        switch (name) {
            case "array": return real.array(n(p, 0), n(p, 1));
            case "things": return real.things(n(p, 0), n(p, 1));
            case "rows": return real.rows(n(p, 0), n(p, 1));
            case "grid": return real.grid(n(p, 0), n(p, 1), n(p, 2), n(p, 3), n(p, 4), n(p, 5));
            case "about": return real.about(n(p, 0), n(p, 1));
            case "row": return real.row(n(p, 0), n(p, 1));
            case "setRow": return real.setRow(n(p, 0), n(p, 1), n(p, 2));
            case "read": return real.read(n(p, 0), n(p, 1), n(p, 2), n(p, 3), n(p, 4), n(p, 5));
            case "write": return real.write(n(p, 0), n(p, 1), n(p, 2), n(p, 3), n(p, 4), n(p, 5), p[6]);
            case "place": return real.place(n(p, 0), n(p, 1), n(p, 2), n(p, 3), n(p, 4));
            case "pin": return real.pin(n(p, 0), n(p, 1), n(p, 2), n(p, 3), n(p, 4), p[5] == 1);
            case "column": return real.column(n(p, 0), n(p, 1));
            case "widens": return real.widens(n(p, 0), n(p, 1));
            case "fill": return real.fill(n(p, 0), n(p, 1), n(p, 2), n(p, 3), p[4]);
            case "move": return real.move(n(p, 0), n(p, 1), n(p, 2), n(p, 3), n(p, 4));
            case "copy": return real.copy(n(p, 0), n(p, 1));
            case "deep": return real.deep(n(p, 0));
            case "sort": return real.sort(n(p, 0), n(p, 1), n(p, 2));
            case "search": return real.search(n(p, 0), p[1]);
            case "same": return real.same(n(p, 0), n(p, 1));
            case "hash": return real.hash(n(p, 0));
            case "decide": return real.decide(n(p, 0), n(p, 1), n(p, 2), n(p, 3), n(p, 4));
            case "candidate": return real.candidate(n(p, 0), p[1]);
            case "span": return real.span(n(p, 0), p[1], p[2], p[3]);
            case "choose": return real.choose(n(p, 0), n(p, 1));
            case "decision": return real.decision(n(p, 0), n(p, 1));
            case "candidateOf": return real.candidateOf(n(p, 0), n(p, 1));
            case "rule": return real.rule(n(p, 0), n(p, 1), n(p, 2), p[3], p[4]);
            case "amount": return real.amount(n(p, 0));
            case "score": return real.score();
            case "best": return real.best();
            case "mark": return real.mark();
            case "back": return real.back();
            default: return real.count(n(p, 0));
        }
    }
}

import java.lang.reflect.Array;
import java.util.ArrayList;
import java.util.Arrays;
import java.util.IdentityHashMap;
import java.util.List;

/** The document written a second time, over Java's own arrays, floats, doubles and library. */
final class Model {
    static class Thing {
        final int number;

        Thing(int number) {
            this.number = number;
        }

        @Override
        public int hashCode() {
            return number;
        }
    }

    static final class Thing0 extends Thing { Thing0(int n) { super(n); } }
    static final class Thing1 extends Thing { Thing1(int n) { super(n); } }
    static final class Thing2 extends Thing { Thing2(int n) { super(n); } }
    static final class Thing3 extends Thing { Thing3(int n) { super(n); } }
    static final class Thing4 extends Thing { Thing4(int n) { super(n); } }
    static final class Thing5 extends Thing { Thing5(int n) { super(n); } }
    static final class Thing6 extends Thing { Thing6(int n) { super(n); } }

    private static final Class<?>[] VALUES = {boolean.class, char.class, byte.class, short.class, int.class, long.class,
        float.class, double.class, Thing.class};
    private static final Class<?>[] CLASSES = {Thing0.class, Thing1.class, Thing2.class, Thing3.class, Thing4.class,
        Thing5.class, Thing6.class};
    private static final Thing[] THINGS = things();

    private static Thing[] things() {
        Thing[] all = new Thing[1001];
        for (int t = 1; t <= 1000; t++) {
            switch (t % 7) {
                case 0: all[t] = new Thing0(t); break;
                case 1: all[t] = new Thing1(t); break;
                case 2: all[t] = new Thing2(t); break;
                case 3: all[t] = new Thing3(t); break;
                case 4: all[t] = new Thing4(t); break;
                case 5: all[t] = new Thing5(t); break;
                default: all[t] = new Thing6(t); break;
            }
        }
        return all;
    }

    /** A code on its way out of a call. */
    static final class Code extends RuntimeException {
        private static final long serialVersionUID = 1;

        final int code;

        Code(int code) {
            super(null, null, false, false);
            this.code = code;
        }
    }

    static final class Decision {
        Object array;
        int place;
        final List<Long> candidates = new ArrayList<>();
    }

    static final class Rule {
        int sort;
        Object array;
        int weight;
        long low;
        long high;
    }

    final List<Object> arrays = new ArrayList<>();
    final List<boolean[]> pins = new ArrayList<>();
    final List<Decision> decisions = new ArrayList<>();
    final List<Rule> rules = new ArrayList<>();
    final List<List<Object>> marks = new ArrayList<>();
    final List<List<boolean[]>> markedPins = new ArrayList<>();
    private final IdentityHashMap<Object, Integer> numbers = new IdentityHashMap<>();

    private static void demand(boolean fine, int code) {
        if (!fine) {
            throw new Code(code);
        }
    }

    // what arrays are, told by their Java types

    int depth(Object array) {
        int depth = 0;
        for (Class<?> type = array.getClass(); type.isArray(); type = type.getComponentType()) {
            depth++;
        }
        return depth;
    }

    private Class<?> leaf(Object array) {
        Class<?> type = array.getClass();
        while (type.isArray()) {
            type = type.getComponentType();
        }
        return type;
    }

    int kind(Object array) {
        int at = Arrays.asList(VALUES).indexOf(leaf(array));
        return at >= 0 ? at : 8;
    }

    private int cls(Object array) {
        return Arrays.asList(CLASSES).indexOf(leaf(array));
    }

    static int length(Object array) {
        return Array.getLength(array);
    }

    private Object get(int a) {
        demand(a >= 0 && a < arrays.size(), 5);
        return arrays.get(a);
    }

    int elements() {
        return arrays.stream().mapToInt(Model::length).sum();
    }

    private int number(Object array) {
        return array == null ? -1 : numbers.get(array);
    }

    private int keep(Object array) {
        numbers.put(array, arrays.size());
        arrays.add(array);
        pins.add(new boolean[length(array)]);
        return arrays.size() - 1;
    }

    private int make(Class<?> element, int n) {
        demand(n >= 0, 4);
        demand(n <= 200 && arrays.size() < 60 && elements() + n <= 4000, 8);
        return keep(Array.newInstance(element, n));
    }

    // values

    static boolean isKind(int kind) {
        return kind >= 0 && kind <= 8;
    }

    /** Reflection itself refuses what does not widen. */
    static boolean widening(int from, int to) {
        if (from == 8 || to == 8) {
            return from == to;
        }
        try {
            Array.set(Array.newInstance(VALUES[to], 1), 0, Array.get(Array.newInstance(VALUES[from], 1), 0));
            return true;
        } catch (IllegalArgumentException e) {
            return false;
        }
    }

    private static Object value(int kind, long bits) {
        boolean fine;
        Object value;
        switch (kind) {
            case 0: fine = bits >> 1 == 0; value = bits == 1; break;
            case 1: fine = bits >= 0 && bits <= Character.MAX_VALUE; value = (char) bits; break;
            case 2: fine = bits >= Byte.MIN_VALUE && bits <= Byte.MAX_VALUE; value = (byte) bits; break;
            case 3: fine = bits >= Short.MIN_VALUE && bits <= Short.MAX_VALUE; value = (short) bits; break;
            case 4: fine = bits >= Integer.MIN_VALUE && bits <= Integer.MAX_VALUE; value = (int) bits; break;
            case 5: fine = true; value = bits; break;
            case 6: fine = bits >= Integer.MIN_VALUE && bits <= Integer.MAX_VALUE; value = Float.intBitsToFloat((int) bits); break;
            case 7: fine = true; value = Double.longBitsToDouble(bits); break;
            default: fine = bits >= 0 && bits <= 1000; value = fine ? THINGS[(int) bits] : null; break;
        }
        demand(fine, 9);
        return value;
    }

    private static long bits(Object value) {
        if (value == null) {
            return 0;
        }
        if (value instanceof Boolean) {
            return (Boolean) value ? 1 : 0;
        }
        if (value instanceof Character) {
            return (Character) value;
        }
        if (value instanceof Float) {
            return Float.floatToIntBits((Float) value);
        }
        if (value instanceof Double) {
            return Double.doubleToLongBits((Double) value);
        }
        return value instanceof Thing ? ((Thing) value).number : ((Number) value).longValue();
    }

    private static boolean isNan(Object value) {
        return (value instanceof Float && ((Float) value).isNaN()) || (value instanceof Double && ((Double) value).isNaN());
    }

    private static long inSums(Object value) {
        if (value instanceof Float) {
            return (long) (float) (Float) value;
        }
        return value instanceof Double ? (long) (double) (Double) value : bits(value);
    }

    private static int order(Object x, Object y) {
        if (x instanceof Float) {
            return Float.compare((Float) x, (Float) y);
        }
        return x instanceof Double ? Double.compare((Double) x, (Double) y) : Long.compare(bits(x), bits(y));
    }

    private static boolean like(Object x, Object y) {
        if (x instanceof Float) {
            return (float) (Float) x == (float) (Float) y;
        }
        return x instanceof Double ? (double) (Double) x == (double) (Double) y : bits(x) == bits(y);
    }

    // elements

    private static final class Spot {
        Object array;
        int place;
    }

    private Spot spot(int a, int... path) {
        Object here = get(a);
        Spot spot = new Spot();
        int depth = depth(here);
        for (int step = 0; step < depth; step++) {
            demand(here != null, 3);
            demand(path[step] >= 0 && path[step] < length(here), 2);
            spot.array = here;
            spot.place = path[step];
            here = depth(here) > 1 ? Array.get(here, path[step]) : null;
        }
        return spot;
    }

    private boolean[] pins(Object array) {
        return pins.get(number(array));
    }

    private int code(Spot spot) {
        return number(spot.array) * 1000 + spot.place;
    }

    private boolean anyPin(Object array, int from, int to) {
        boolean any = false;
        for (int i = from; i < to; i++) {
            any |= pins(array)[i];
        }
        return any;
    }

    private void store(Object array, int from, int to, Object value) {
        demand(!anyPin(array, from, to), 6);
        Class<?> element = array.getClass().getComponentType();
        demand(element.isPrimitive() || value == null || element.isInstance(value), 7);
        for (int i = from; i < to; i++) {
            Array.set(array, i, value);
        }
    }

    // the calls

    int array(int kind, int n) {
        demand(isKind(kind), 9);
        return make(VALUES[kind], n);
    }

    int things(int cls, int n) {
        demand(cls >= 0 && cls <= 6, 9);
        return make(CLASSES[cls], n);
    }

    int rows(int a, int n) {
        Object below = get(a);
        demand(depth(below) < 4, 9);
        return make(below.getClass(), n);
    }

    int grid(int kind, int depth, int... n) {
        demand(kind >= 0 && kind <= 7 && depth >= 1 && depth <= 4, 9);
        int[] lengths = Arrays.copyOf(n, depth);
        for (int length : lengths) {
            demand(length >= 0, 4);
        }
        double countArrays = 0;
        double countElements = 0;
        double level = 1;
        for (int length : lengths) {
            demand(length <= 200, 8);
            countArrays += level;
            level *= length;
            countElements += level;
        }
        demand(arrays.size() + countArrays <= 60 && elements() + countElements <= 4000, 8);
        int first = arrays.size();
        keepAll(Array.newInstance(VALUES[kind], lengths));
        return first;
    }

    private void keepAll(Object array) {
        keep(array);
        if (array instanceof Object[] && depth(array) > 1) {
            for (Object row : (Object[]) array) {
                if (row != null) {
                    keepAll(row);
                }
            }
        }
    }

    int about(int a, int what) {
        Object array = get(a);
        switch (what) {
            case 0: return kind(array);
            case 1: return depth(array);
            case 2: return length(array);
            case 3: return cls(array);
            case 4: return depth(array) == 1 ? 0 : (int) Arrays.stream((Object[]) array).filter(r -> r == null).count();
            case 5:
                int found = 0;
                for (boolean pin : pins(array)) {
                    found += pin ? 1 : 0;
                }
                return found;
            default: throw new Code(9);
        }
    }

    int row(int a, int i) {
        Object array = get(a);
        demand(depth(array) > 1, 1);
        demand(i >= 0 && i < length(array), 2);
        return number(Array.get(array, i));
    }

    int setRow(int a, int i, int r) {
        Object array = get(a);
        Object row = r == -1 ? null : get(r);
        demand(i >= 0 && i < length(array), 2);
        demand(depth(array) > 1, 1);
        // a Java array of arrays of THINGS would take one of a narrower CLASS too
        demand(row == null || array.getClass().getComponentType() == row.getClass(), 1);
        Array.set(array, i, row);
        return 0;
    }

    long read(int a, int i, int j, int k, int l, int reader) {
        get(a);
        demand(isKind(reader), 9);
        Spot spot = spot(a, i, j, k, l);
        demand(widening(kind(spot.array), reader), 1);
        if (reader == 8) {
            return bits(Array.get(spot.array, spot.place));
        }
        Object one = Array.newInstance(VALUES[reader], 1);
        Array.set(one, 0, Array.get(spot.array, spot.place));
        return bits(Array.get(one, 0));
    }

    int write(int a, int i, int j, int k, int l, int writer, long bits) {
        get(a);
        demand(isKind(writer), 9);
        Object value = value(writer, bits);
        Spot spot = spot(a, i, j, k, l);
        demand(widening(writer, kind(spot.array)), 1);
        store(spot.array, spot.place, spot.place + 1, value);
        return 0;
    }

    int place(int a, int i, int j, int k, int l) {
        return code(spot(a, i, j, k, l));
    }

    int pin(int a, int i, int j, int k, int l, boolean on) {
        Spot spot = spot(a, i, j, k, l);
        int was = pins(spot.array)[spot.place] ? 1 : 0;
        pins(spot.array)[spot.place] = on;
        return was;
    }

    int column(int kind, int n) {
        demand(isKind(kind) && n >= 0, 9);
        List<Integer> all = new ArrayList<>();
        for (int a = 0; a < arrays.size(); a++) {
            for (int i = 0; kind(get(a)) == kind && depth(get(a)) == 1 && i < length(get(a)); i++) {
                all.add(a * 1000 + i);
            }
        }
        return n < all.size() ? all.get(n) : -2;
    }

    int widens(int from, int to) {
        demand(isKind(from) && isKind(to), 9);
        return widening(from, to) ? 1 : 0;
    }

    int fill(int a, int from, int to, int writer, long bits) {
        Object array = get(a);
        demand(isKind(writer), 9);
        Object value = value(writer, bits);
        demand(depth(array) == 1 && widening(writer, kind(array)), 1);
        demand(0 <= from && from <= to && to <= length(array), 2);
        store(array, from, to, value);
        return to - from;
    }

    int move(int a, int i, int b, int k, int n) {
        Object source = get(a);
        Object target = get(b);
        demand(kind(source) == kind(target) && depth(source) == depth(target), 1);
        demand(depth(source) == 1 || source.getClass() == target.getClass(), 1);
        demand(n >= 0, 4);
        demand(i >= 0 && k >= 0 && (long) i + n <= length(source) && (long) k + n <= length(target), 2);
        demand(!anyPin(target, k, k + n), 6);
        try {
            System.arraycopy(source, i, target, k, n);
        } catch (ArrayStoreException e) {
            throw new Code(7);
        }
        return n;
    }

    int copy(int a, int m) {
        Object source = get(a);
        int made = make(source.getClass().getComponentType(), m);
        System.arraycopy(source, 0, arrays.get(made), 0, Math.min(m, length(source)));
        return made;
    }

    int deep(int a) {
        Object source = get(a);
        int before = arrays.size();
        try {
            return deepCopy(source);
        } catch (Code e) {
            while (arrays.size() > before) {
                numbers.remove(arrays.remove(arrays.size() - 1));
                pins.remove(pins.size() - 1);
            }
            throw e;
        }
    }

    private int deepCopy(Object source) {
        int made = make(source.getClass().getComponentType(), length(source));
        for (int i = 0; i < length(source); i++) {
            Object element = Array.get(source, i);
            boolean row = depth(source) > 1 && element != null;
            Array.set(arrays.get(made), i, row ? arrays.get(deepCopy(element)) : element);
        }
        return made;
    }

    int sort(int a, int from, int to) {
        Object array = get(a);
        demand(depth(array) == 1, 1);
        demand(0 <= from && from <= to && to <= length(array), 2);
        demand(!anyPin(array, from, to), 6);
        List<Object> values = new ArrayList<>();
        for (int i = from; i < to; i++) {
            values.add(Array.get(array, i));
        }
        List<Object> sorted = new ArrayList<>(values);
        sorted.sort(Model::order);
        int changed = 0;
        for (int i = from; i < to; i++) {
            Array.set(array, i, sorted.get(i - from));
            changed += bits(values.get(i - from)) != bits(sorted.get(i - from)) ? 1 : 0;
        }
        return changed;
    }

    int search(int a, long bits) {
        Object array = get(a);
        Object value = value(kind(array), bits);
        demand(depth(array) == 1, 1);
        List<Object> values = new ArrayList<>();
        for (int i = 0; i < length(array); i++) {
            values.add(Array.get(array, i));
        }
        int found = java.util.Collections.binarySearch(values, value, Model::order);
        return found >= 0 ? found : -99 + found;
    }

    int same(int a, int b) {
        Object x = get(a);
        Object y = get(b);
        boolean types = kind(x) == kind(y) && depth(x) == depth(y);
        return types && Arrays.deepEquals(new Object[] {x}, new Object[] {y}) ? 1 : 0;
    }

    int hash(int a) {
        return Arrays.deepHashCode(new Object[] {get(a)}) - 31;
    }

    int decide(int a, int i, int j, int k, int l) {
        Spot spot = spot(a, i, j, k, l);
        for (int d = 0; d < decisions.size(); d++) {
            if (decisions.get(d).array == spot.array && decisions.get(d).place == spot.place) {
                return d;
            }
        }
        demand(decisions.size() < 24, 8);
        Decision decision = new Decision();
        decision.array = spot.array;
        decision.place = spot.place;
        decisions.add(decision);
        return decisions.size() - 1;
    }

    private Decision toDecide(int d) {
        demand(d >= 0 && d < decisions.size(), 9);
        return decisions.get(d);
    }

    int candidate(int d, long bits) {
        Decision decision = toDecide(d);
        Object value = value(kind(decision.array), bits);
        demand(!isNan(value) && !decision.candidates.contains(bits), 9);
        Class<?> element = decision.array.getClass().getComponentType();
        demand(element.isPrimitive() || value == null || element.isInstance(value), 7);
        demand(decision.candidates.size() < 16, 8);
        decision.candidates.add(bits);
        return decision.candidates.size();
    }

    int span(int d, long low, long high, long step) {
        Decision decision = toDecide(d);
        int kind = kind(decision.array);
        demand(kind >= 1 && kind <= 5 && step >= 1, 9);
        value(kind, low);
        value(kind, high);
        List<Long> all = new ArrayList<>(decision.candidates);
        java.math.BigInteger at = java.math.BigInteger.valueOf(low);
        while (at.compareTo(java.math.BigInteger.valueOf(high)) <= 0) {
            if (!all.contains(at.longValue())) {
                all.add(at.longValue());
            }
            demand(all.size() <= 16, 8);
            at = at.add(java.math.BigInteger.valueOf(step));
        }
        decision.candidates.clear();
        decision.candidates.addAll(all);
        return all.size();
    }

    int choose(int d, int c) {
        Decision decision = toDecide(d);
        demand(c >= 0 && c < decision.candidates.size(), 9);
        Object value = value(kind(decision.array), decision.candidates.get(c));
        store(decision.array, decision.place, decision.place + 1, value);
        return 0;
    }

    int decision(int d, int what) {
        Decision decision = toDecide(d);
        switch (what) {
            case 0: return number(decision.array);
            case 1: return decision.place;
            case 2: return decision.candidates.size();
            case 3:
                int at = decision.candidates.indexOf(bits(Array.get(decision.array, decision.place)));
                return at < 0 ? -2 : at;
            default: throw new Code(9);
        }
    }

    long candidateOf(int d, int c) {
        Decision decision = toDecide(d);
        demand(c >= 0 && c < decision.candidates.size(), 9);
        return decision.candidates.get(c);
    }

    int rule(int sort, int a, int weight, long low, long high) {
        Rule rule = new Rule();
        rule.array = get(a);
        demand(sort >= 0 && sort <= 5 && weight >= -1000 && weight <= 1000, 9);
        rule.low = sort == 3 ? bits(value(kind(rule.array), low)) : low;
        demand(depth(rule.array) == 1, 1);
        demand(rules.size() < 12, 8);
        rule.sort = sort;
        rule.weight = weight;
        rule.high = high;
        rules.add(rule);
        return rules.size() - 1;
    }

    long amount(int r) {
        demand(r >= 0 && r < rules.size(), 9);
        Rule rule = rules.get(r);
        Object[] all = new Object[length(rule.array)];
        for (int i = 0; i < all.length; i++) {
            all[i] = Array.get(rule.array, i);
        }
        java.math.BigInteger amount = amountOf(rule, all);
        return amount.min(java.math.BigInteger.valueOf(1000000)).longValue();
    }

    private static java.math.BigInteger big(long x) {
        return java.math.BigInteger.valueOf(x);
    }

    private java.math.BigInteger amountOf(Rule rule, Object[] all) {
        long sum = 0;
        long pairs = 0;
        long falls = 0;
        long found = 0;
        long changes = 0;
        java.math.BigInteger far = big(0);
        for (int i = 0; i < all.length; i++) {
            sum += inSums(all[i]);
            found += bits(all[i]) == rule.low ? 1 : 0;
            for (int j = 0; j < i; j++) {
                pairs += like(all[i], all[j]) ? 1 : 0;
            }
            if (i > 0) {
                falls += order(all[i], all[i - 1]) < 0 ? 1 : 0;
                changes += bits(all[i]) != bits(all[i - 1]) ? 1 : 0;
                far = far.max(big(inSums(all[i])).subtract(big(inSums(all[i - 1]))).abs());
            }
        }
        switch (rule.sort) {
            case 0:
                if (sum < rule.low) {
                    return big(rule.low).subtract(big(sum));
                }
                return sum > rule.high ? big(sum).subtract(big(rule.high)) : big(0);
            case 1: return big(pairs);
            case 2: return big(falls);
            case 3: return big(found).subtract(big(rule.high)).abs();
            case 4: return big(changes);
            default: return far;
        }
    }

    long score() {
        long score = 0;
        for (int r = 0; r < rules.size(); r++) {
            score += amount(r) * rules.get(r).weight;
        }
        return score;
    }

    private List<Decision> open() {
        List<Decision> open = new ArrayList<>(decisions);
        open.removeIf(d -> d.candidates.isEmpty() || pins(d.array)[d.place]);
        return open;
    }

    private int ways() {
        java.math.BigInteger ways = big(1);
        for (Decision decision : open()) {
            ways = ways.multiply(big(decision.candidates.size()));
        }
        return ways.min(big(5001)).intValue();
    }

    int best() {
        int ways = ways();
        demand(ways <= 5000, 8);
        List<Decision> open = open();
        int bestWay = 0;
        long least = Long.MAX_VALUE;
        for (int way = 0; way < ways; way++) {
            take(open, way);
            long score = score();
            if (score < least) {
                least = score;
                bestWay = way;
            }
        }
        take(open, bestWay);
        return ways;
    }

    /** A way as a number, its last digit being that of the last decision. */
    private void take(List<Decision> open, int way) {
        int rest = way;
        for (int d = open.size() - 1; d >= 0; d--) {
            Decision decision = open.get(d);
            int size = decision.candidates.size();
            Array.set(decision.array, decision.place, value(kind(decision.array), decision.candidates.get(rest % size)));
            rest /= size;
        }
    }

    private static Object flatCopy(Object array) {
        Object copy = Array.newInstance(array.getClass().getComponentType(), length(array));
        System.arraycopy(array, 0, copy, 0, length(array));
        return copy;
    }

    int mark() {
        demand(marks.size() < 8, 8);
        List<Object> kept = new ArrayList<>();
        List<boolean[]> keptPins = new ArrayList<>();
        for (int a = 0; a < arrays.size(); a++) {
            kept.add(flatCopy(arrays.get(a)));
            keptPins.add(pins.get(a).clone());
        }
        marks.add(kept);
        markedPins.add(keptPins);
        return marks.size();
    }

    int back() {
        demand(!marks.isEmpty(), 9);
        List<Object> kept = marks.remove(marks.size() - 1);
        List<boolean[]> keptPins = markedPins.remove(markedPins.size() - 1);
        for (int a = 0; a < kept.size(); a++) {
            System.arraycopy(kept.get(a), 0, arrays.get(a), 0, length(kept.get(a)));
            System.arraycopy(keptPins.get(a), 0, pins.get(a), 0, length(kept.get(a)));
        }
        return marks.size();
    }

    int count(int what) {
        switch (what) {
            case 0: return arrays.size();
            case 1: return elements();
            case 2: return decisions.size();
            case 3: return rules.size();
            case 4: return marks.size();
            case 5: return ways();
            default: throw new Code(9);
        }
    }
}

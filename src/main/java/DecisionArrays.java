import java.util.ArrayList;

/** Decisions in arrays of nine kinds and up to four deep, as ../shared/DOC.md promises them. */
public final class DecisionArrays {
    private static final int BOOLEAN = 0;
    private static final int CHAR = 1;
    private static final int BYTE = 2;
    private static final int SHORT = 3;
    private static final int INT = 4;
    private static final int LONG = 5;
    private static final int FLOAT = 6;
    private static final int DOUBLE = 7;
    private static final int THING = 8;

    private static final int NOT_ALIKE = 1;
    private static final int NO_INDEX = 2;
    private static final int NULL_ROW = 3;
    private static final int NEGATIVE_LENGTH = 4;
    private static final int NO_ARRAY = 5;
    private static final int PINNED = 6;
    private static final int OTHER_CLASS = 7;
    private static final int BOUND = 8;
    private static final int NOT_TOLD = 9;

    private static final int NONE = -2;
    private static final int NULL = -1;
    private static final int ANY_CLASS = -1;
    private static final int CLASSES = 7;
    private static final int LAST_THING = 1000;

    private static final int MOST_ARRAYS = 60;
    private static final int MOST_ELEMENTS = 4000;
    private static final int MOST_LENGTH = 200;
    private static final int MOST_DEPTH = 4;
    private static final int MOST_DECISIONS = 24;
    private static final int MOST_CANDIDATES = 16;
    private static final int MOST_RULES = 12;
    private static final int MOST_WEIGHT = 1000;
    private static final int MOST_AMOUNT = 1000000;
    private static final int MOST_WAYS = 5000;
    private static final int MOST_MARKS = 8;

    /** Above every length, so that an array and a place go into one number. */
    private static final int PLACES = 1000;

    private static final int SUM = 0;
    private static final int UNLIKE = 1;
    private static final int RISING = 2;
    private static final int COUNT = 3;
    private static final int CHANGES = 4;
    private static final int FAR = 5;

    private final Store store;
    private final Likeness likeness;
    private final Choices choices;
    private final Laws laws;
    private final ArrayList<Snapshot> snapshots;
    private final long[] keys;
    private int marks;
    private int latest;

    public DecisionArrays() {
        store = new Store();
        likeness = new Likeness();
        choices = new Choices();
        laws = new Laws();
        snapshots = new ArrayList<>();
        keys = new long[MOST_LENGTH];
        marks = 0;
        latest = 0;
    }

    // ---- arrays

    public int array(int kind, int n) {
        if (!Kinds.isKind(kind)) {
            return refused(NOT_TOLD);
        }
        return created(kind, 1, ANY_CLASS, n);
    }

    public int things(int cls, int n) {
        if (cls < 0 || cls >= CLASSES) {
            return refused(NOT_TOLD);
        }
        return created(THING, 1, cls, n);
    }

    public int rows(int a, int n) {
        Cells below = store.find(a);
        if (below == null) {
            return refused(NO_ARRAY);
        }
        if (below.depth >= MOST_DEPTH) {
            return refused(NOT_TOLD);
        }
        return created(below.kind, below.depth + 1, below.cls, n);
    }

    public int grid(int kind, int depth, int n0, int n1, int n2, int n3) {
        if (!Kinds.isKind(kind) || kind == THING || depth < 1 || depth > MOST_DEPTH) {
            return refused(NOT_TOLD);
        }
        store.planGrid(depth, n0, n1, n2, n3);
        if (store.gridHasNegative(depth)) {
            return refused(NEGATIVE_LENGTH);
        }
        if (!store.gridFits(depth)) {
            return refused(BOUND);
        }
        return answered(store.addGrid(kind, depth));
    }

    public int about(int a, int what) {
        Cells cells = store.find(a);
        if (cells == null) {
            return refused(NO_ARRAY);
        }
        switch (what) {
            case 0:
                return answered(cells.kind);
            case 1:
                return answered(cells.depth);
            case 2:
                return answered(cells.length);
            case 3:
                return answered(cells.cls);
            case 4:
                return answered(cells.nullRows());
            case 5:
                return answered(cells.pinsIn(0, cells.length));
            default:
                return refused(NOT_TOLD);
        }
    }

    public int row(int a, int i) {
        Cells cells = store.find(a);
        if (cells == null) {
            return nullFor(NO_ARRAY);
        }
        if (cells.depth == 1) {
            return nullFor(NOT_ALIKE);
        }
        if (!cells.hasIndex(i)) {
            return nullFor(NO_INDEX);
        }
        return answered((int) cells.bits[i]);
    }

    public int setRow(int a, int i, int r) {
        Cells cells = store.find(a);
        Cells below = store.find(r);
        if (cells == null || (below == null && r != NULL)) {
            return refused(NO_ARRAY);
        }
        if (!cells.hasIndex(i)) {
            return refused(NO_INDEX);
        }
        if (cells.depth == 1 || (below != null && !below.canBeRowOf(cells))) {
            return refused(NOT_ALIKE);
        }
        cells.bits[i] = r;
        return answered(0);
    }

    // ---- elements

    public long read(int a, int i, int j, int k, int l, int reader) {
        Cells top = store.find(a);
        if (top == null) {
            return zeroFor(NO_ARRAY);
        }
        if (!Kinds.isKind(reader)) {
            return zeroFor(NOT_TOLD);
        }
        int spot = store.locate(a, i, j, k, l);
        if (spot < 0) {
            return zeroFor(-spot);
        }
        if (!Kinds.widening(top.kind, reader)) {
            return zeroFor(NOT_ALIKE);
        }
        latest = 0;
        return Kinds.widened(top.kind, reader, store.bitsAt(spot));
    }

    public int write(int a, int i, int j, int k, int l, int writer, long bits) {
        if (store.find(a) == null) {
            return refused(NO_ARRAY);
        }
        if (!Kinds.isValue(writer, bits)) {
            return refused(NOT_TOLD);
        }
        int spot = store.locate(a, i, j, k, l);
        Cells cells = store.find(spot / PLACES);
        if (spot < 0 || cells == null) {
            return refused(-spot);
        }
        int place = spot % PLACES;
        return filled(cells, place, place + 1, writer, bits) < 0 ? -latest : 0;
    }

    public int place(int a, int i, int j, int k, int l) {
        int spot = store.locate(a, i, j, k, l);
        return spot < 0 ? refused(-spot) : answered(spot);
    }

    public int pin(int a, int i, int j, int k, int l, boolean on) {
        int spot = store.locate(a, i, j, k, l);
        Cells cells = store.find(spot / PLACES);
        if (spot < 0 || cells == null) {
            return refused(-spot);
        }
        int place = spot % PLACES;
        boolean was = cells.pinned[place];
        cells.pinned[place] = on;
        return answered(was ? 1 : 0);
    }

    public int column(int kind, int n) {
        if (!Kinds.isKind(kind) || n < 0) {
            return refused(NOT_TOLD);
        }
        return answered(store.nthOfKind(kind, n));
    }

    public int code() {
        return latest;
    }

    public int widens(int from, int to) {
        if (!Kinds.isKind(from) || !Kinds.isKind(to)) {
            return refused(NOT_TOLD);
        }
        return answered(Kinds.widening(from, to) ? 1 : 0);
    }

    // ---- whole arrays

    public int fill(int a, int from, int to, int writer, long bits) {
        Cells cells = store.find(a);
        if (cells == null) {
            return refused(NO_ARRAY);
        }
        if (!Kinds.isValue(writer, bits)) {
            return refused(NOT_TOLD);
        }
        return filled(cells, from, to, writer, bits);
    }

    public int move(int a, int i, int b, int k, int n) {
        Cells source = store.find(a);
        Cells target = store.find(b);
        if (source == null || target == null) {
            return refused(NO_ARRAY);
        }
        if (!target.holdsLike(source)) {
            return refused(NOT_ALIKE);
        }
        if (n < 0) {
            return refused(NEGATIVE_LENGTH);
        }
        if (!source.hasMany(i, n) || !target.hasMany(k, n)) {
            return refused(NO_INDEX);
        }
        if (target.pinsIn(k, k + n) > 0) {
            return refused(PINNED);
        }
        int taken = target.takenOf(source, i, n);
        System.arraycopy(source.bits, i, target.bits, k, taken);
        return taken < n ? refused(OTHER_CLASS) : answered(n);
    }

    public int copy(int a, int m) {
        Cells source = store.find(a);
        if (source == null) {
            return refused(NO_ARRAY);
        }
        int made = created(source.kind, source.depth, source.cls, m);
        Cells target = store.find(made);
        if (target != null) {
            System.arraycopy(source.bits, 0, target.bits, 0, Math.min(source.length, target.length));
        }
        return made;
    }

    public int deep(int a) {
        if (store.find(a) == null) {
            return refused(NO_ARRAY);
        }
        if (!store.deepCopyFits(a)) {
            return refused(BOUND);
        }
        return answered(store.addDeepCopy(a));
    }

    public int sort(int a, int from, int to) {
        Cells cells = store.find(a);
        if (cells == null) {
            return refused(NO_ARRAY);
        }
        if (cells.depth != 1) {
            return refused(NOT_ALIKE);
        }
        if (!cells.hasRange(from, to)) {
            return refused(NO_INDEX);
        }
        if (cells.pinsIn(from, to) > 0) {
            return refused(PINNED);
        }
        return answered(Order.putInOrder(cells, from, to, keys));
    }

    public int search(int a, long bits) {
        Cells cells = store.find(a);
        if (cells == null) {
            return refused(NO_ARRAY);
        }
        if (!Kinds.isValue(cells.kind, bits)) {
            return refused(NOT_TOLD);
        }
        if (cells.depth != 1) {
            return refused(NOT_ALIKE);
        }
        return answered(Order.byHalving(cells, Kinds.tidy(cells.kind, bits)));
    }

    public int same(int a, int b) {
        if (store.find(a) == null || store.find(b) == null) {
            return refused(NO_ARRAY);
        }
        return answered(likeness.isAlike(store, a, b) ? 1 : 0);
    }

    public int hash(int a) {
        if (store.find(a) == null) {
            return (int) zeroFor(NO_ARRAY);
        }
        return answered(likeness.hashed(store, a));
    }

    // ---- decisions

    public int decide(int a, int i, int j, int k, int l) {
        int spot = store.locate(a, i, j, k, l);
        Cells cells = store.find(spot / PLACES);
        if (spot < 0 || cells == null) {
            return refused(-spot);
        }
        int known = choices.numberOf(spot);
        if (known >= 0) {
            return answered(known);
        }
        if (choices.size() >= MOST_DECISIONS) {
            return refused(BOUND);
        }
        return answered(choices.add(new Choice(spot, cells)));
    }

    public int candidate(int d, long bits) {
        Choice choice = choices.find(d);
        if (choice == null || !choice.canBeOffered(bits)) {
            return refused(NOT_TOLD);
        }
        if (!choice.cells.takes(bits)) {
            return refused(OTHER_CLASS);
        }
        if (!choice.offer(bits)) {
            return refused(BOUND);
        }
        return answered(choice.size);
    }

    public int span(int d, long low, long high, long step) {
        Choice choice = choices.find(d);
        if (choice == null || step < 1) {
            return refused(NOT_TOLD);
        }
        int kind = choice.cells.kind;
        if (kind < CHAR || kind > LONG || !Kinds.isValue(kind, low) || !Kinds.isValue(kind, high)) {
            return refused(NOT_TOLD);
        }
        if (!choice.offerSpan(low, high, step)) {
            return refused(BOUND);
        }
        return answered(choice.size);
    }

    public int choose(int d, int c) {
        Choice choice = choices.find(d);
        if (choice == null || !choice.hasCandidate(c)) {
            return refused(NOT_TOLD);
        }
        if (choice.isPinned()) {
            return refused(PINNED);
        }
        choice.take(c);
        return answered(0);
    }

    public int decision(int d, int what) {
        Choice choice = choices.find(d);
        if (choice == null) {
            return refused(NOT_TOLD);
        }
        switch (what) {
            case 0:
                return answered(choice.spot / PLACES);
            case 1:
                return answered(choice.spot % PLACES);
            case 2:
                return answered(choice.size);
            case 3:
                return answered(choice.numberOf(choice.cells.bits[choice.spot % PLACES]));
            default:
                return refused(NOT_TOLD);
        }
    }

    public long candidateOf(int d, int c) {
        Choice choice = choices.find(d);
        if (choice == null || !choice.hasCandidate(c)) {
            return zeroFor(NOT_TOLD);
        }
        latest = 0;
        return choice.candidates[c];
    }

    // ---- rules

    public int rule(int sort, int a, int weight, long low, long high) {
        Cells cells = store.find(a);
        if (cells == null) {
            return refused(NO_ARRAY);
        }
        if (sort < SUM || sort > FAR || weight < -MOST_WEIGHT || weight > MOST_WEIGHT) {
            return refused(NOT_TOLD);
        }
        if (sort == COUNT && !Kinds.isValue(cells.kind, low)) {
            return refused(NOT_TOLD);
        }
        if (cells.depth != 1) {
            return refused(NOT_ALIKE);
        }
        if (laws.size() >= MOST_RULES) {
            return refused(BOUND);
        }
        long bound = sort == COUNT ? Kinds.tidy(cells.kind, low) : low;
        return answered(laws.add(new Law(sort, cells, weight, bound, high)));
    }

    public long amount(int r) {
        Law law = laws.find(r);
        if (law == null) {
            return zeroFor(NOT_TOLD);
        }
        latest = 0;
        return law.measured(keys);
    }

    public long score() {
        return laws.total(0, keys);
    }

    public int best() {
        int ways = choices.ways();
        if (ways > MOST_WAYS) {
            return refused(BOUND);
        }
        choices.takeFirst();
        laws.tieTo(choices);
        long least = laws.total(0, keys);
        choices.keep();
        for (int way = 1; way < ways; way++) {
            long now = laws.total(choices.takeNext(), keys);
            if (now < least) {
                least = now;
                choices.keep();
            }
        }
        choices.takeKept();
        return answered(ways);
    }

    // ---- marks

    public int mark() {
        if (marks >= MOST_MARKS) {
            return refused(BOUND);
        }
        if (marks >= snapshots.size()) {
            snapshots.add(new Snapshot());
        }
        snapshots.get(marks).take(store);
        marks++;
        return answered(marks);
    }

    public int back() {
        if (marks < 1 || marks > snapshots.size()) {
            return refused(NOT_TOLD);
        }
        marks--;
        snapshots.get(marks).giveBack(store);
        return answered(marks);
    }

    public int count(int what) {
        switch (what) {
            case 0:
                return answered(store.size());
            case 1:
                return answered(store.elements);
            case 2:
                return answered(choices.size());
            case 3:
                return answered(laws.size());
            case 4:
                return answered(marks);
            case 5:
                return answered(choices.ways());
            default:
                return refused(NOT_TOLD);
        }
    }

    // ---- what several calls share

    private int answered(int answer) {
        latest = 0;
        return answer;
    }

    private int refused(int reason) {
        latest = reason;
        return -reason;
    }

    private long zeroFor(int reason) {
        latest = reason;
        return 0;
    }

    private int nullFor(int reason) {
        latest = reason;
        return NULL;
    }

    private int created(int kind, int depth, int cls, int n) {
        if (n < 0) {
            return refused(NEGATIVE_LENGTH);
        }
        if (n > MOST_LENGTH || !store.hasRoom(1, n)) {
            return refused(BOUND);
        }
        return answered(store.add(kind, depth, cls, n));
    }

    /** Takes BITS that are known to be a value of the writer's kind. */
    private int filled(Cells cells, int from, int to, int writer, long bits) {
        if (cells.depth != 1 || !Kinds.widening(writer, cells.kind)) {
            return refused(NOT_ALIKE);
        }
        if (!cells.hasRange(from, to)) {
            return refused(NO_INDEX);
        }
        if (cells.pinsIn(from, to) > 0) {
            return refused(PINNED);
        }
        long value = Kinds.widened(writer, cells.kind, Kinds.tidy(writer, bits));
        if (!cells.takes(value)) {
            return refused(OTHER_CLASS);
        }
        for (int place = from; place < to; place++) {
            cells.bits[place] = value;
        }
        return answered(to - from);
    }

    /** What the nine kinds are: their values, how they widen, their order. */
    private static final class Kinds {
        static boolean isKind(int kind) {
            return kind >= BOOLEAN && kind <= THING;
        }

        static boolean isValue(int kind, long bits) {
            switch (kind) {
                case BOOLEAN:
                    return bits == 0 || bits == 1;
                case CHAR:
                    return bits == (char) bits;
                case BYTE:
                    return bits == (byte) bits;
                case SHORT:
                    return bits == (short) bits;
                case INT:
                case FLOAT:
                    return bits == (int) bits;
                case LONG:
                case DOUBLE:
                    return true;
                case THING:
                    return bits >= 0 && bits <= LAST_THING;
                default:
                    return false;
            }
        }

        static boolean isNoNumber(int kind, long bits) {
            return (kind == FLOAT && Reals.isNoFloat(bits)) || (kind == DOUBLE && Reals.isNoDouble(bits));
        }

        /** There is one no-number of a kind, so that BITS can be compared as they are. */
        static long tidy(int kind, long bits) {
            if (!isNoNumber(kind, bits)) {
                return bits;
            }
            return kind == FLOAT ? Reals.NO_FLOAT : Reals.NO_DOUBLE;
        }

        static boolean widening(int from, int to) {
            if (from == to) {
                return true;
            }
            if (from == CHAR) {
                return to >= INT && to <= DOUBLE;
            }
            return from >= BYTE && from < to && to <= DOUBLE;
        }

        static long widened(int from, int to, long bits) {
            if (from == to || to < FLOAT) {
                return bits;
            }
            if (to == FLOAT) {
                return Reals.nearestFloat(bits);
            }
            return from == FLOAT ? Reals.doubleOf(bits) : Reals.nearestDouble(bits);
        }

        /** A long that stands in the order of longs where the value stands in its own; taken twice it is BITS again. */
        static long key(int kind, long bits) {
            if (bits >= 0 || kind < FLOAT) {
                return bits;
            }
            return kind == FLOAT ? bits ^ Reals.FLOAT_SIZE : bits ^ Reals.DOUBLE_SIZE;
        }

        /** THE NUMBER as it is in sums. */
        static long whole(int kind, long bits) {
            if (kind == FLOAT) {
                return Reals.towardsZero(bits, Reals.FLOAT_DIGITS, Reals.FLOAT_BIAS);
            }
            return kind == DOUBLE ? Reals.towardsZero(bits, Reals.DOUBLE_DIGITS, Reals.DOUBLE_BIAS) : bits;
        }
    }

    /** Floats and doubles by their BITS alone, as the no-number must never come out of a reckoning. */
    private static final class Reals {
        static final long NO_FLOAT = 0x7FC00000L;
        static final long NO_DOUBLE = 0x7FF8000000000000L;
        static final long FLOAT_SIZE = 0x7FFFFFFFL;
        static final long DOUBLE_SIZE = 0x7FFFFFFFFFFFFFFFL;
        static final int FLOAT_DIGITS = 23;
        static final int DOUBLE_DIGITS = 52;
        static final int FLOAT_BIAS = 127;
        static final int DOUBLE_BIAS = 1023;

        private static final long FLOAT_INFINITE = 0x7F800000L;
        private static final long DOUBLE_INFINITE = 0x7FF0000000000000L;
        private static final long FLOAT_SIGN = -0x80000000L;
        private static final long DOUBLE_SIGN = 0x8000000000000000L;

        static boolean isNoFloat(long bits) {
            return (bits & FLOAT_SIZE) > FLOAT_INFINITE;
        }

        static boolean isNoDouble(long bits) {
            return (bits & DOUBLE_SIZE) > DOUBLE_INFINITE;
        }

        static long nearestFloat(long whole) {
            long size = nearest(whole, FLOAT_DIGITS, FLOAT_BIAS);
            return whole < 0 ? size | FLOAT_SIGN : size;
        }

        static long nearestDouble(long whole) {
            long size = nearest(whole, DOUBLE_DIGITS, DOUBLE_BIAS);
            return whole < 0 ? size | DOUBLE_SIGN : size;
        }

        private static long nearest(long whole, int digits, int bias) {
            if (whole == 0) {
                return 0;
            }
            // the least long has no positive: all below reads this one without a sign
            long size = whole < 0 ? -whole : whole;
            int top = topBit(size);
            long kept = top <= digits ? size << (digits - top) : rounded(size, top - digits);
            // added, not joined: a rounding up to the next power of two must carry into the exponent
            return ((long) (top + bias - 1) << digits) + kept;
        }

        private static long rounded(long size, int dropped) {
            long kept = size >>> dropped;
            long rest = size - (kept << dropped);
            long half = 1L << (dropped - 1);
            boolean up = rest > half || (rest == half && (kept & 1) == 1);
            return up ? kept + 1 : kept;
        }

        private static int topBit(long size) {
            int top = 63;
            while (top > 0 && size >>> top == 0) {
                top--;
            }
            return top;
        }

        /** The double that is the same as a float. */
        static long doubleOf(long bits) {
            long sign = bits < 0 ? DOUBLE_SIGN : 0;
            long size = bits & FLOAT_SIZE;
            if (size > FLOAT_INFINITE) {
                return NO_DOUBLE;
            }
            if (size == FLOAT_INFINITE) {
                return sign | DOUBLE_INFINITE;
            }
            if (size >>> FLOAT_DIGITS == 0) {
                return sign | doubleOfSmall(size);
            }
            long shift = (long) (DOUBLE_BIAS - FLOAT_BIAS) << DOUBLE_DIGITS;
            return sign | ((size << (DOUBLE_DIGITS - FLOAT_DIGITS)) + shift);
        }

        /** Floats below the least exponent have no hidden first digit; as doubles they have one. */
        private static long doubleOfSmall(long digits) {
            if (digits == 0) {
                return 0;
            }
            int top = topBit(digits);
            long exponent = top + DOUBLE_BIAS - FLOAT_BIAS - FLOAT_DIGITS + 1;
            return ((exponent - 1) << DOUBLE_DIGITS) + (digits << (DOUBLE_DIGITS - top));
        }

        /** The whole of a float or double towards 0, at the ends of longs where it is beyond them. */
        static long towardsZero(long bits, int digits, int bias) {
            long hidden = 1L << digits;
            long fraction = bits & (hidden - 1);
            int power = (int) (bits >>> digits & (2 * bias + 1)) - bias;
            boolean noNumber = power > bias && fraction != 0;
            if (power < 0 || noNumber) {
                return 0;
            }
            if (power >= 63) {
                return bits < 0 ? DOUBLE_SIGN : DOUBLE_SIZE;
            }
            long all = hidden | fraction;
            long whole = power < digits ? all >>> (digits - power) : all << (power - digits);
            return bits < 0 ? -whole : whole;
        }
    }

    /** One array: values, or numbers of ROWS. */
    private static final class Cells {
        final int kind;
        final int depth;
        final int cls;
        final int length;
        final long[] bits;
        final boolean[] pinned;

        Cells(int kind, int depth, int cls, int length) {
            this.kind = kind;
            this.depth = depth;
            this.cls = cls;
            this.length = length;
            this.bits = new long[length];
            this.pinned = new boolean[length];
            if (depth > 1) {
                for (int i = 0; i < length; i++) {
                    bits[i] = NULL;
                }
            }
        }

        boolean hasIndex(int i) {
            return i >= 0 && i < length;
        }

        boolean hasRange(int from, int to) {
            return from >= 0 && from <= to && to <= length;
        }

        /** n is not below 0; written without a sum, which could be beyond ints. */
        boolean hasMany(int i, int n) {
            return i >= 0 && i <= length && n <= length - i;
        }

        int pinsIn(int from, int to) {
            int found = 0;
            for (int i = from; i < to; i++) {
                if (pinned[i]) {
                    found++;
                }
            }
            return found;
        }

        int nullRows() {
            int found = 0;
            for (int i = 0; depth > 1 && i < length; i++) {
                if (bits[i] == NULL) {
                    found++;
                }
            }
            return found;
        }

        boolean canBeRowOf(Cells above) {
            return kind == above.kind && cls == above.cls && depth == above.depth - 1;
        }

        boolean holdsLike(Cells other) {
            return kind == other.kind && depth == other.depth && (depth == 1 || cls == other.cls);
        }

        boolean takes(long value) {
            return cls == ANY_CLASS || value == 0 || value % CLASSES == cls;
        }

        /** How many come before the first THING that is not taken; ROWS are alike here, their numbers are no THINGS. */
        int takenOf(Cells source, int i, int n) {
            for (int taken = 0; depth == 1 && taken < n; taken++) {
                if (!takes(source.bits[i + taken])) {
                    return taken;
                }
            }
            return n;
        }
    }

    /** All arrays, by their numbers. */
    private static final class Store {
        private final ArrayList<Cells> arrays;
        private final int[] gridLengths;
        private int neededArrays;
        private int neededElements;
        int elements;

        Store() {
            arrays = new ArrayList<>();
            gridLengths = new int[MOST_DEPTH + 1];
            neededArrays = 0;
            neededElements = 0;
            elements = 0;
        }

        int size() {
            return arrays.size();
        }

        Cells find(int a) {
            return a >= 0 && a < arrays.size() ? arrays.get(a) : null;
        }

        boolean hasRoom(long moreArrays, long moreElements) {
            return arrays.size() + moreArrays <= MOST_ARRAYS && elements + moreElements <= MOST_ELEMENTS;
        }

        int add(int kind, int depth, int cls, int length) {
            arrays.add(new Cells(kind, depth, cls, length));
            elements += length;
            return arrays.size() - 1;
        }

        /** Where an element lies: array and place in one number, or a code below 0. */
        int locate(int a, int i, int j, int k, int l) {
            Cells here = find(a);
            if (here == null) {
                return -NO_ARRAY;
            }
            int number = a;
            for (int step = 0; step < MOST_DEPTH; step++) {
                int index = step == 0 ? i : step == 1 ? j : step == 2 ? k : l;
                if (!here.hasIndex(index)) {
                    return -NO_INDEX;
                }
                if (here.depth == 1) {
                    return number * PLACES + index;
                }
                number = (int) here.bits[index];
                here = find(number);
                if (here == null) {
                    return -NULL_ROW;
                }
            }
            return -NO_INDEX;
        }

        long bitsAt(int spot) {
            Cells cells = find(spot / PLACES);
            return cells == null ? 0 : cells.bits[spot % PLACES];
        }

        int nthOfKind(int kind, int n) {
            int ahead = n;
            for (int a = 0; a < arrays.size(); a++) {
                Cells cells = arrays.get(a);
                if (cells.kind == kind && cells.depth == 1) {
                    if (ahead < cells.length) {
                        return a * PLACES + ahead;
                    }
                    ahead -= cells.length;
                }
            }
            return NONE;
        }

        /** Lengths are kept by the DEPTH of the arrays that will have them. */
        void planGrid(int depth, int n0, int n1, int n2, int n3) {
            for (int step = 0; step < depth; step++) {
                gridLengths[depth - step] = step == 0 ? n0 : step == 1 ? n1 : step == 2 ? n2 : n3;
            }
        }

        boolean gridHasNegative(int depth) {
            for (int d = depth; d > 0; d--) {
                if (gridLengths[d] < 0) {
                    return true;
                }
            }
            return false;
        }

        boolean gridFits(int depth) {
            long level = 1;
            long moreArrays = 0;
            long moreElements = 0;
            for (int d = depth; d > 0; d--) {
                if (gridLengths[d] > MOST_LENGTH) {
                    return false;
                }
                moreArrays += level;
                level *= gridLengths[d];
                moreElements += level;
            }
            return hasRoom(moreArrays, moreElements);
        }

        int addGrid(int kind, int depth) {
            return gridBelow(kind, depth);
        }

        private int gridBelow(int kind, int depth) {
            int made = add(kind, depth, ANY_CLASS, gridLengths[depth]);
            Cells cells = arrays.get(made);
            for (int i = 0; depth > 1 && i < cells.length; i++) {
                cells.bits[i] = gridBelow(kind, depth - 1);
            }
            return made;
        }

        boolean deepCopyFits(int a) {
            neededArrays = 0;
            neededElements = 0;
            weigh(a, MOST_DEPTH);
            return hasRoom(neededArrays, neededElements);
        }

        /** Stops as soon as too much is needed: a ROW may be met millions of times through shared ROWS. */
        private void weigh(int a, int levels) {
            Cells cells = find(a);
            if (cells == null || levels < 1 || neededArrays > MOST_ARRAYS) {
                return;
            }
            neededArrays++;
            neededElements += cells.length;
            for (int i = 0; cells.depth > 1 && i < cells.length; i++) {
                weigh((int) cells.bits[i], levels - 1);
            }
        }

        int addDeepCopy(int a) {
            return copyBelow(a, MOST_DEPTH);
        }

        private int copyBelow(int a, int levels) {
            Cells source = find(a);
            if (source == null || levels < 1) {
                return NULL;
            }
            int made = add(source.kind, source.depth, source.cls, source.length);
            Cells target = arrays.get(made);
            for (int i = 0; i < source.length; i++) {
                long below = source.bits[i];
                target.bits[i] = source.depth > 1 ? copyBelow((int) below, levels - 1) : below;
            }
            return made;
        }
    }

    /** HASHES and likeness through ROWS; each is found once a call, as ROWS may be shared many times over. */
    private static final class Likeness {
        private final int[] hashes;
        private final boolean[] known;
        private final long[] alike;

        Likeness() {
            hashes = new int[MOST_ARRAYS];
            known = new boolean[MOST_ARRAYS];
            alike = new long[MOST_ARRAYS];
        }

        int hashed(Store store, int a) {
            for (int i = 0; i < MOST_ARRAYS; i++) {
                known[i] = false;
            }
            return hashBelow(store, a, MOST_DEPTH);
        }

        private int hashBelow(Store store, int a, int levels) {
            Cells cells = store.find(a);
            if (cells == null || levels < 1) {
                return 0;
            }
            if (known[a]) {
                return hashes[a];
            }
            int result = 1;
            for (int i = 0; i < cells.length; i++) {
                long bits = cells.bits[i];
                int one = cells.depth > 1 ? hashBelow(store, (int) bits, levels - 1) : hashOfValue(cells.kind, bits);
                result = 31 * result + one;
            }
            hashes[a] = result;
            known[a] = true;
            return result;
        }

        private static int hashOfValue(int kind, long bits) {
            if (kind == BOOLEAN) {
                return bits == 1 ? 1231 : 1237;
            }
            return kind == LONG || kind == DOUBLE ? (int) (bits ^ (bits >>> 32)) : (int) bits;
        }

        boolean isAlike(Store store, int a, int b) {
            for (int i = 0; i < MOST_ARRAYS; i++) {
                alike[i] = 0;
            }
            return alikeBelow(store, a, b, MOST_DEPTH);
        }

        /** Only pairs that are alike are kept, as bits: the first pair that is not ends the whole. */
        private boolean alikeBelow(Store store, int a, int b, int levels) {
            Cells one = store.find(a);
            Cells other = store.find(b);
            if (one == null || other == null || levels < 1) {
                return one == null && other == null;
            }
            if (a == b || (alike[a] >>> b & 1) == 1) {
                return true;
            }
            if (one.kind != other.kind || one.depth != other.depth || one.length != other.length) {
                return false;
            }
            for (int i = 0; i < one.length; i++) {
                long x = one.bits[i];
                long y = other.bits[i];
                if (one.depth > 1 ? !alikeBelow(store, (int) x, (int) y, levels - 1) : x != y) {
                    return false;
                }
            }
            alike[a] |= 1L << b;
            return true;
        }
    }

    /** What is done in the order of values. */
    private static final class Order {
        private static final int[] GAPS = {132, 57, 23, 10, 4, 1};

        static void ascend(long[] keys, int n) {
            for (int gap : GAPS) {
                for (int i = gap; i < n; i++) {
                    long key = keys[i];
                    int free = i;
                    while (free >= gap && keys[free - gap] > key) {
                        keys[free] = keys[free - gap];
                        free -= gap;
                    }
                    keys[free] = key;
                }
            }
        }

        /** How many places have other BITS than before. */
        static int putInOrder(Cells cells, int from, int to, long[] keys) {
            int n = to - from;
            for (int i = 0; i < n; i++) {
                keys[i] = Kinds.key(cells.kind, cells.bits[from + i]);
            }
            ascend(keys, n);
            int changed = 0;
            for (int i = 0; i < n; i++) {
                long bits = Kinds.key(cells.kind, keys[i]);
                if (bits != cells.bits[from + i]) {
                    cells.bits[from + i] = bits;
                    changed++;
                }
            }
            return changed;
        }

        static int byHalving(Cells cells, long bits) {
            long wanted = Kinds.key(cells.kind, bits);
            int low = 0;
            int high = cells.length - 1;
            while (low <= high) {
                int middle = (low + high) / 2;
                long key = Kinds.key(cells.kind, cells.bits[middle]);
                if (key == wanted) {
                    return middle;
                }
                if (key < wanted) {
                    low = middle + 1;
                } else {
                    high = middle - 1;
                }
            }
            return -100 - low;
        }
    }

    /** One DECISION. */
    private static final class Choice {
        final int spot;
        final Cells cells;
        final long[] candidates;
        int size;
        private int taken;
        private int kept;

        Choice(int spot, Cells cells) {
            this.spot = spot;
            this.cells = cells;
            this.candidates = new long[MOST_CANDIDATES];
            this.size = 0;
            this.taken = 0;
            this.kept = 0;
        }

        boolean isPinned() {
            return cells.pinned[spot % PLACES];
        }

        boolean isOpen() {
            return size > 0 && !isPinned();
        }

        boolean hasCandidate(int c) {
            return c >= 0 && c < size;
        }

        int numberOf(long bits) {
            for (int c = 0; c < size; c++) {
                if (candidates[c] == bits) {
                    return c;
                }
            }
            return NONE;
        }

        boolean canBeOffered(long bits) {
            return Kinds.isValue(cells.kind, bits) && !Kinds.isNoNumber(cells.kind, bits) && numberOf(bits) == NONE;
        }

        boolean offer(long bits) {
            if (size >= MOST_CANDIDATES) {
                return false;
            }
            candidates[size] = bits;
            size++;
            return true;
        }

        /** As many turns as there can be: those that are there already, those that are new, and one too many. */
        boolean offerSpan(long low, long high, long step) {
            int before = size;
            long value = low;
            for (int turn = 0; turn <= 2 * MOST_CANDIDATES && value <= high; turn++) {
                if (numberOf(value) == NONE && !offer(value)) {
                    size = before;
                    return false;
                }
                long next = value + step;
                if (next < value) {
                    return true;
                }
                value = next;
            }
            return true;
        }

        void take(int c) {
            taken = c;
            cells.bits[spot % PLACES] = candidates[c];
        }

        boolean takeNext() {
            if (taken + 1 >= size) {
                return false;
            }
            take(taken + 1);
            return true;
        }

        void keep() {
            kept = taken;
        }

        void takeKept() {
            take(kept);
        }
    }

    /** All DECISIONS, and the ways to go through them, the last one changing fastest. */
    private static final class Choices {
        private final ArrayList<Choice> all;

        Choices() {
            all = new ArrayList<>();
        }

        int size() {
            return all.size();
        }

        Choice find(int d) {
            return d >= 0 && d < all.size() ? all.get(d) : null;
        }

        int add(Choice choice) {
            all.add(choice);
            return all.size() - 1;
        }

        int numberOf(int spot) {
            for (int d = 0; d < all.size(); d++) {
                if (all.get(d).spot == spot) {
                    return d;
                }
            }
            return NONE;
        }

        /** One above the most, whatever more there are. */
        int ways() {
            int ways = 1;
            for (int d = 0; d < all.size(); d++) {
                Choice choice = all.get(d);
                if (choice.isOpen()) {
                    ways = Math.min(ways * choice.size, MOST_WAYS + 1);
                }
            }
            return ways;
        }

        void takeFirst() {
            for (int d = 0; d < all.size(); d++) {
                Choice choice = all.get(d);
                if (choice.isOpen()) {
                    choice.take(0);
                }
            }
        }

        /** Answers the first DECISION that became another one. */
        int takeNext() {
            for (int d = all.size() - 1; d >= 0; d--) {
                Choice choice = all.get(d);
                if (choice.isOpen()) {
                    if (choice.takeNext()) {
                        return d;
                    }
                    choice.take(0);
                }
            }
            return 0;
        }

        void keep() {
            for (int d = 0; d < all.size(); d++) {
                all.get(d).keep();
            }
        }

        void takeKept() {
            for (int d = 0; d < all.size(); d++) {
                Choice choice = all.get(d);
                if (choice.isOpen()) {
                    choice.takeKept();
                }
            }
        }

        /** The last open DECISION in an array, -1 where there is none. */
        int lastOpenIn(Cells cells) {
            for (int d = all.size() - 1; d >= 0; d--) {
                Choice choice = all.get(d);
                if (choice.cells == cells && choice.isOpen()) {
                    return d;
                }
            }
            return -1;
        }
    }

    /** One RULE. */
    private static final class Law {
        final Cells cells;
        final int weight;
        int lastOpen;
        long weighed;
        private final int sort;
        private final long low;
        private final long high;

        Law(int sort, Cells cells, int weight, long low, long high) {
            this.sort = sort;
            this.cells = cells;
            this.weight = weight;
            this.low = low;
            this.high = high;
            this.lastOpen = -1;
            this.weighed = 0;
        }

        long measured(long[] keys) {
            switch (sort) {
                case SUM:
                    return outside();
                case UNLIKE:
                    return likePairs(keys);
                case RISING:
                    return falls();
                case COUNT:
                    return distance(occurrences(), high);
                case CHANGES:
                    return changes();
                case FAR:
                    return farthest();
                default:
                    return 0;
            }
        }

        /** At most the greatest AMOUNT; a difference below 0 is one that 64 bits do not hold. */
        private static long distance(long x, long y) {
            long far = x < y ? y - x : x - y;
            return far < 0 || far > MOST_AMOUNT ? MOST_AMOUNT : far;
        }

        private long outside() {
            long sum = 0;
            for (int i = 0; i < cells.length; i++) {
                sum += Kinds.whole(cells.kind, cells.bits[i]);
            }
            if (sum < low) {
                return distance(sum, low);
            }
            return sum > high ? distance(sum, high) : 0;
        }

        /** By order, as comparing all pairs would be slow where many ways are judged. */
        private long likePairs(long[] keys) {
            int n = 0;
            for (int i = 0; i < cells.length; i++) {
                long bits = cells.bits[i];
                if (!Kinds.isNoNumber(cells.kind, bits)) {
                    long key = Kinds.key(cells.kind, bits);
                    boolean minusZero = cells.kind >= FLOAT && key == -1;
                    keys[n] = minusZero ? 0 : key;
                    n++;
                }
            }
            Order.ascend(keys, n);
            long pairs = 0;
            int run = 0;
            for (int i = 1; i < n; i++) {
                run = keys[i] == keys[i - 1] ? run + 1 : 0;
                pairs += run;
            }
            return pairs;
        }

        private long falls() {
            long found = 0;
            for (int i = 1; i < cells.length; i++) {
                if (Kinds.key(cells.kind, cells.bits[i]) < Kinds.key(cells.kind, cells.bits[i - 1])) {
                    found++;
                }
            }
            return found;
        }

        private long occurrences() {
            long found = 0;
            for (int i = 0; i < cells.length; i++) {
                if (cells.bits[i] == low) {
                    found++;
                }
            }
            return found;
        }

        private long changes() {
            long found = 0;
            for (int i = 1; i < cells.length; i++) {
                if (cells.bits[i] != cells.bits[i - 1]) {
                    found++;
                }
            }
            return found;
        }

        private long farthest() {
            long most = 0;
            long before = 0;
            for (int i = 0; i < cells.length; i++) {
                long number = Kinds.whole(cells.kind, cells.bits[i]);
                if (i > 0) {
                    most = Math.max(most, distance(before, number));
                }
                before = number;
            }
            return most;
        }
    }

    /** All RULES. */
    private static final class Laws {
        private final ArrayList<Law> all;

        Laws() {
            all = new ArrayList<>();
        }

        int size() {
            return all.size();
        }

        Law find(int r) {
            return r >= 0 && r < all.size() ? all.get(r) : null;
        }

        int add(Law law) {
            all.add(law);
            return all.size() - 1;
        }

        void tieTo(Choices choices) {
            for (int r = 0; r < all.size(); r++) {
                Law law = all.get(r);
                law.lastOpen = choices.lastOpenIn(law.cells);
            }
        }

        /** THE SCORE; what lies in no DECISION from this one on is not judged anew, but from 0 on all is. */
        long total(int decision, long[] keys) {
            long sum = 0;
            for (int r = 0; r < all.size(); r++) {
                Law law = all.get(r);
                if (decision == 0 || law.lastOpen >= decision) {
                    law.weighed = law.weight * law.measured(keys);
                }
                sum += law.weighed;
            }
            return sum;
        }
    }

    /** What one MARK keeps; its rows are used again by later MARKS. */
    private static final class Snapshot {
        private long[] bits;
        private boolean[] pinned;
        private int arrays;

        Snapshot() {
            bits = new long[0];
            pinned = new boolean[0];
            arrays = 0;
        }

        void take(Store store) {
            if (bits.length < store.elements) {
                // twice as many as needed, so that few rows are made however often arrays come between MARKS
                int room = Math.min(2 * store.elements, MOST_ELEMENTS);
                bits = new long[room];
                pinned = new boolean[room];
            }
            arrays = store.size();
            int at = 0;
            for (int a = 0; a < arrays; a++) {
                Cells cells = store.find(a);
                for (int i = 0; cells != null && i < cells.length; i++) {
                    bits[at] = cells.bits[i];
                    pinned[at] = cells.pinned[i];
                    at++;
                }
            }
        }

        void giveBack(Store store) {
            int at = 0;
            for (int a = 0; a < arrays; a++) {
                Cells cells = store.find(a);
                for (int i = 0; cells != null && i < cells.length; i++) {
                    cells.bits[i] = bits[at];
                    cells.pinned[i] = pinned[at];
                    at++;
                }
            }
        }
    }
}

/** The sentences of "Terms" on KINDS and ARRAYS that name a bound: the call at it, one below and one above. */
public final class TermsTest {
    private static final Check check = new Check();
    private static final long NO_FLOAT = 0x7FC00000L;
    private static final long NO_DOUBLE = 0x7FF8000000000000L;
    private static final int[] ANY_INDEX = {Integer.MIN_VALUE, -1, 0, 1, 200, Integer.MAX_VALUE};

    public static void main(String[] args) {
        nineKinds();
        thousandThings();
        classesOfThings();
        bitsOfKinds();
        oneNoFloat();
        oneNoDouble();
        wideningByCalls();
        nearestFloat();
        nearestDouble();
        sameDouble();
        numbersInOrder();
        numbersInSums();
        sixtyArrays();
        lengths();
        fourThousandElements();
        rowsCountAsElements();
        fourDeep();
        atFirst();
        classesOfArrays();
        pathCounts();
        pathSteps();
        pathThroughNull();
        check.end();
    }

    // ---- KINDS

    private static void nineKinds() {
        check.promise("KINDS are 0 .. 8");
        for (int kind = -1; kind <= 9; kind++) {
            boolean told = kind >= 0 && kind <= 8;
            DecisionArrays x = new DecisionArrays();
            x.array(8, 1);
            check.due(x.array(kind, 1), told ? 1 : -9);
            check.due(x.column(kind, 5), told ? -2 : -9);
            check.due(x.widens(kind, kind), told ? 1 : -9);
            check.due(x.write(0, 0, 0, 0, 0, kind, 0), !told ? -9 : kind == 8 ? 0 : -1);
            check.due(x.fill(0, 0, 1, kind, 0), !told ? -9 : kind == 8 ? 1 : -1);
            check.silent(x, x.read(0, 0, 0, 0, 0, kind), 0, !told ? 9 : kind == 8 ? 0 : 1);
            check.due(x.grid(kind, 1, 1, 0, 0, 0), told && kind != 8 ? 2 : -9);
        }
        for (int kind : new int[] {Integer.MIN_VALUE, Integer.MAX_VALUE}) {
            DecisionArrays x = new DecisionArrays();
            check.refused(x, x.array(kind, 1), 9);
            check.refused(x, x.grid(kind, 1, 1, 0, 0, 0), 9);
            check.refused(x, x.column(kind, 0), 9);
            check.refused(x, x.widens(kind, kind), 9);
        }
    }

    /** Each call that takes BITS, on BITS of THINGS. */
    private static void thousandThings() {
        check.promise("THINGS are 0 (null), or 1 .. 1000");
        for (long thing : new long[] {Long.MIN_VALUE, -1, 0, 1, 1000, 1001, Long.MAX_VALUE}) {
            boolean told = thing >= 0 && thing <= 1000;
            takesBits(8, thing, told, thing);
        }
    }

    /** A value of a KIND is written, filled in, found, a CANDIDATE and counted; other BITS are refused by each. */
    private static void takesBits(int kind, long bits, boolean told, long kept) {
        DecisionArrays x = new DecisionArrays();
        x.array(kind, 1);
        check.silent(x, x.write(0, 0, 0, 0, 0, kind, bits), told ? 0 : -9, told ? 0 : 9);
        check.due(x.read(0, 0, 0, 0, 0, kind), told ? kept : 0);
        x.array(kind, 1);
        check.silent(x, x.fill(1, 0, 1, kind, bits), told ? 1 : -9, told ? 0 : 9);
        check.due(x.read(1, 0, 0, 0, 0, kind), told ? kept : 0);
        check.silent(x, x.search(0, bits), told ? 0 : -9, told ? 0 : 9);
        x.decide(0, 0, 0, 0, 0);
        boolean offered = told && !(kind == 6 && kept == NO_FLOAT) && !(kind == 7 && kept == NO_DOUBLE);
        check.silent(x, x.candidate(0, bits), offered ? 1 : -9, offered ? 0 : 9);
        check.silent(x, x.rule(3, 0, 1, bits, 0), told ? 0 : -9, told ? 0 : 9);
        check.due(x.amount(0), told ? 1 : 0);
    }

    private static void classesOfThings() {
        check.promise("THING t is of CLASS t modulo 7, null of each");
        for (int cls = 0; cls <= 6; cls++) {
            for (int first = 0; first <= 1000; first += 500) {
                DecisionArrays x = new DecisionArrays();
                x.things(cls, 1);
                for (int thing = first; thing < first + 500 && thing <= 1000; thing++) {
                    boolean fits = thing == 0 || thing % 7 == cls;
                    check.due(x.write(0, 0, 0, 0, 0, 8, thing), fits ? 0 : -7);
                }
            }
        }
        for (int first = 0; first <= 1000; first += 500) {
            DecisionArrays x = new DecisionArrays();
            x.array(8, 1);
            for (int thing = first; thing < first + 500 && thing <= 1000; thing++) {
                check.due(x.write(0, 0, 0, 0, 0, 8, thing), 0);
            }
        }
    }

    private static void bitsOfKinds() {
        check.promise("BITS that no value of a kind has are none of it");
        long[][] ends = {{0, 1}, {0, 65535}, {-128, 127}, {-32768, 32767}, {Integer.MIN_VALUE, Integer.MAX_VALUE}};
        for (int kind = 0; kind <= 4; kind++) {
            long low = ends[kind][0];
            long high = ends[kind][1];
            takesBits(kind, low - 1, false, 0);
            takesBits(kind, low, true, low);
            takesBits(kind, high, true, high);
            takesBits(kind, high + 1, false, 0);
            takesBits(kind, Long.MIN_VALUE, false, 0);
            takesBits(kind, Long.MAX_VALUE, false, 0);
            takesBits(kind, 1L << 32, false, 0);
        }
        takesBits(5, Long.MIN_VALUE, true, Long.MIN_VALUE);
        takesBits(5, Long.MAX_VALUE, true, Long.MAX_VALUE);
        takesBits(6, Integer.MIN_VALUE, true, Integer.MIN_VALUE);
        takesBits(6, Integer.MIN_VALUE - 1L, false, 0);
        takesBits(6, Integer.MAX_VALUE, true, NO_FLOAT);
        takesBits(6, Integer.MAX_VALUE + 1L, false, 0);
        takesBits(6, 0xFFC00000L, false, 0);
        takesBits(7, Long.MIN_VALUE, true, Long.MIN_VALUE);
        takesBits(7, Long.MAX_VALUE, true, NO_DOUBLE);
    }

    private static void oneNoFloat() {
        check.promise("There is one no-number of floats: others become it");
        for (int bits : new int[] {0x7F800001, 0x7FBFFFFF, 0x7FC00000, 0x7FC00001, 0x7FFFFFFF, 0xFF800001, 0xFFC00000, -1}) {
            takesBits(6, bits, true, NO_FLOAT);
            DecisionArrays x = new DecisionArrays();
            x.array(7, 2);
            check.fine(x, x.write(0, 0, 0, 0, 0, 6, bits), 0);
            check.fine(x, x.fill(0, 1, 2, 6, bits), 1);
            check.due(x.read(0, 0, 0, 0, 0, 7), NO_DOUBLE);
            check.due(x.read(0, 1, 0, 0, 0, 7), NO_DOUBLE);
        }
        for (int bits : new int[] {0x7F7FFFFF, 0x7F800000, 0xFF7FFFFF, 0xFF800000}) {
            takesBits(6, bits, true, bits);
        }
    }

    private static void oneNoDouble() {
        check.promise("There is one no-number of doubles: others become it");
        long infinite = 0x7FF0000000000000L;
        long[] none = {infinite + 1, NO_DOUBLE - 1, NO_DOUBLE, NO_DOUBLE + 1, Long.MAX_VALUE, Long.MIN_VALUE + infinite + 1,
            Long.MIN_VALUE + NO_DOUBLE, -1};
        for (long bits : none) {
            takesBits(7, bits, true, NO_DOUBLE);
        }
        for (long bits : new long[] {infinite - 1, infinite, Long.MIN_VALUE + infinite - 1, Long.MIN_VALUE + infinite}) {
            takesBits(7, bits, true, bits);
        }
    }

    // ---- WIDENING

    private static void wideningByCalls() {
        check.promise("a kind WIDENS to .., by widens, read, write and fill");
        String[] to = {"0", "14567", "234567", "34567", "4567", "567", "67", "7", "8"};
        for (int from = 0; from <= 8; from++) {
            DecisionArrays x = new DecisionArrays();
            x.array(from, 1);
            for (int kind = 0; kind <= 8; kind++) {
                boolean does = to[from].indexOf('0' + kind) >= 0;
                check.fine(x, x.widens(from, kind), does ? 1 : 0);
                check.silent(x, x.read(0, 0, 0, 0, 0, kind), 0, does ? 0 : 1);
                int a = x.array(kind, 1);
                check.due(x.write(a, 0, 0, 0, 0, from, 1), does ? 0 : -1);
                check.due(x.fill(a, 0, 1, from, 0), does ? 1 : -1);
                check.due(x.fill(a, 0, 0, from, 0), does ? 0 : -1);
            }
        }
    }

    private static void nearestFloat() {
        check.promise("a whole becomes the nearest float, of two as near the even one");
        long[] wholes = {0, 1, -1, (1 << 24) - 1, 1 << 24, (1 << 24) + 1, (1 << 24) + 2, (1 << 24) + 3, (1 << 25) + 2,
            (1 << 25) + 3, (1 << 25) + 5, (1 << 25) + 6, (1 << 25) - 1, (1L << 40) + (1L << 16), (1L << 40) + (1L << 16) + 1,
            (1L << 40) + (1L << 16) - 1, (1L << 40) + (3L << 16), Integer.MAX_VALUE, Integer.MIN_VALUE, Long.MAX_VALUE,
            Long.MIN_VALUE, Long.MIN_VALUE + 1, Long.MAX_VALUE - (1L << 39), Long.MAX_VALUE - (1L << 39) + 1};
        DecisionArrays x = new DecisionArrays();
        x.array(5, 1);
        x.array(6, 2);
        for (long whole : wholes) {
            for (long w : new long[] {whole, -whole}) {
                x.write(0, 0, 0, 0, 0, 5, w);
                check.fine(x, x.read(0, 0, 0, 0, 0, 6), Float.floatToIntBits((float) w));
                check.due(x.write(1, 0, 0, 0, 0, 5, w), 0);
                check.due(x.read(1, 0, 0, 0, 0, 6), Float.floatToIntBits((float) w));
            }
        }
        x.write(0, 0, 0, 0, 0, 5, (1 << 24) + 1);
        check.due(x.read(0, 0, 0, 0, 0, 6), Float.floatToIntBits(16777216f));
        x.write(0, 0, 0, 0, 0, 5, (1 << 24) + 3);
        check.due(x.read(0, 0, 0, 0, 0, 6), Float.floatToIntBits(16777220f));
        check.due(x.fill(1, 1, 2, 1, 65535), 1);
        check.due(x.read(1, 1, 0, 0, 0, 6), Float.floatToIntBits(65535f));
    }

    private static void nearestDouble() {
        check.promise("a whole becomes the nearest double, of two as near the even one");
        long[] wholes = {0, 1, -1, (1L << 53) - 1, 1L << 53, (1L << 53) + 1, (1L << 53) + 2, (1L << 53) + 3, (1L << 54) - 1,
            (1L << 54) + 2, (1L << 54) + 3, (1L << 54) + 6, (1L << 60) + (1L << 7), (1L << 60) + (1L << 7) + 1, Long.MAX_VALUE,
            (1L << 60) + (3L << 7), Long.MIN_VALUE, Long.MIN_VALUE + 1, Long.MAX_VALUE - 511, Long.MAX_VALUE - 512};
        DecisionArrays x = new DecisionArrays();
        x.array(5, 1);
        x.array(7, 1);
        for (long whole : wholes) {
            for (long w : new long[] {whole, -whole}) {
                x.write(0, 0, 0, 0, 0, 5, w);
                check.fine(x, x.read(0, 0, 0, 0, 0, 7), Double.doubleToLongBits((double) w));
                check.due(x.write(1, 0, 0, 0, 0, 5, w), 0);
                check.due(x.read(1, 0, 0, 0, 0, 7), Double.doubleToLongBits((double) w));
            }
        }
        x.write(0, 0, 0, 0, 0, 5, (1L << 53) + 1);
        check.due(x.read(0, 0, 0, 0, 0, 7), Double.doubleToLongBits(9007199254740992.0));
        x.write(0, 0, 0, 0, 0, 5, (1L << 53) + 3);
        check.due(x.read(0, 0, 0, 0, 0, 7), Double.doubleToLongBits(9007199254740996.0));
    }

    private static void sameDouble() {
        check.promise("a float becomes the same double, a no-number the no-number");
        DecisionArrays x = new DecisionArrays();
        x.array(6, 1);
        x.array(7, 1);
        float[] floats = {0f, Float.MIN_VALUE, 2 * Float.MIN_VALUE, 3 * Float.MIN_VALUE, Float.intBitsToFloat(0x7FFFFF),
            Float.intBitsToFloat(0x400000), Float.MIN_NORMAL, Float.intBitsToFloat(0x800001), 0.1f, 1f, 16777217f,
            Float.MAX_VALUE, Float.POSITIVE_INFINITY, Float.NaN};
        for (float some : floats) {
            for (float f : new float[] {some, -some}) {
                x.write(0, 0, 0, 0, 0, 6, Float.floatToIntBits(f));
                check.fine(x, x.read(0, 0, 0, 0, 0, 7), Double.doubleToLongBits((double) f));
                check.fine(x, x.write(1, 0, 0, 0, 0, 6, Float.floatToIntBits(f)), 0);
                check.due(x.read(1, 0, 0, 0, 0, 7), Double.doubleToLongBits((double) f));
            }
        }
    }

    // ---- THE NUMBER

    /** Rising as the document says; each value is searched for at its place, and falls when it comes behind the next. */
    private static void numbersInOrder() {
        check.promise("in order as it is: - 0 below 0, the no-number above all");
        double[] rising = {Double.NEGATIVE_INFINITY, -Double.MAX_VALUE, -1, -Double.MIN_VALUE, -0.0, 0.0, Double.MIN_VALUE, 1,
            Double.MAX_VALUE, Double.POSITIVE_INFINITY, Double.NaN};
        float[] small = {Float.NEGATIVE_INFINITY, -Float.MAX_VALUE, -1, -Float.MIN_VALUE, -0f, 0f, Float.MIN_VALUE, 1,
            Float.MAX_VALUE, Float.POSITIVE_INFINITY, Float.NaN};
        DecisionArrays x = new DecisionArrays();
        inOrder(x, Make.doubles(x, rising));
        inOrder(x, Make.floats(x, small));
        inOrder(x, Make.of(x, 0, 0, 1));
        inOrder(x, Make.of(x, 1, 0, 1, 32767, 32768, 65535));
        DecisionArrays y = new DecisionArrays();
        inOrder(y, Make.of(y, 2, -128, -1, 0, 127));
        inOrder(y, Make.of(y, 5, Long.MIN_VALUE, -1, 0, 1, Long.MAX_VALUE));
        inOrder(y, Make.of(y, 8, 0, 1, 6, 7, 999, 1000));
    }

    private static void inOrder(DecisionArrays x, int a) {
        int kind = x.about(a, 0);
        int n = x.about(a, 2);
        int turned = x.array(kind, n);
        for (int i = 0; i < n; i++) {
            check.due(x.search(a, x.read(a, i, 0, 0, 0, kind)), i);
            x.write(turned, n - 1 - i, 0, 0, 0, kind, x.read(a, i, 0, 0, 0, kind));
        }
        check.due(x.amount(x.rule(2, a, 1, 0, 0)), 0);
        check.due(x.amount(x.rule(2, turned, 1, 0, 0)), n - 1);
        check.due(x.sort(turned, 0, n), n - n % 2);
        check.due(x.same(a, turned), 1);
        check.due(x.sort(a, 0, n), 0);
    }

    private static void numbersInSums() {
        check.promise("in sums the whole towards 0; 0 of the no-number; at most 2^63 - 1, at least - 2^63");
        double below = Math.nextDown(0x1p63);
        double[] reals = {0.0, -0.0, Double.MIN_VALUE, Math.nextDown(1.0), 1.0, Math.nextUp(1.0), Math.nextDown(2.0), below, 0x1p63,
            Math.nextUp(0x1p63), Double.MAX_VALUE, Double.POSITIVE_INFINITY, Double.NaN, 0x1p52 + 0.5, 0x1p53, 0x1p62, 1e300};
        for (double some : reals) {
            for (double real : new double[] {some, -some}) {
                DecisionArrays x = new DecisionArrays();
                inSums(x, Make.doubles(x, real), (long) real);
                inSums(x, Make.floats(x, (float) real), (long) (float) real);
            }
        }
        DecisionArrays x = new DecisionArrays();
        inSums(x, Make.doubles(x, 0x1p63), Long.MAX_VALUE);
        inSums(x, Make.doubles(x, -0x1p63), Long.MIN_VALUE);
        inSums(x, Make.doubles(x, below), Long.MAX_VALUE - 1023);
        inSums(x, Make.doubles(x, Double.NaN), 0);
        inSums(x, Make.of(x, 0, 0), 0);
        inSums(x, Make.of(x, 0, 1), 1);
        DecisionArrays y = new DecisionArrays();
        inSums(y, Make.of(y, 8, 1000), 1000);
        inSums(y, Make.of(y, 1, 65535), 65535);
        inSums(y, Make.of(y, 5, Long.MIN_VALUE), Long.MIN_VALUE);
        inSums(y, Make.doubles(y, 0.75, 0.75, -1.75), -1);
        inSums(y, Make.of(y, 5, Long.MAX_VALUE, 1), Long.MIN_VALUE);
        inSums(y, Make.of(y, 5, Long.MIN_VALUE, -1), Long.MAX_VALUE);
    }

    /** The rule's bounds are the sum itself; where there is a number above or below it, one step off is seen too. */
    private static void inSums(DecisionArrays x, int a, long sum) {
        int exact = x.rule(0, a, 1, sum, sum);
        check.due(x.amount(exact), 0);
        check.due(x.code(), 0);
        boolean top = sum == Long.MAX_VALUE;
        int off = top ? x.rule(0, a, 1, sum - 1, sum - 1) : x.rule(0, a, 1, sum + 1, sum + 1);
        check.due(x.amount(off), 1);
        check.due(x.code(), 0);
    }

    // ---- ARRAYS

    private interface Maker {
        int make(DecisionArrays x, int n);
    }

    /** Each call that makes one array as long as is told. */
    private static final Maker[] MAKERS = {(x, n) -> x.array(4, n), (x, n) -> x.array(8, n), (x, n) -> x.things(6, n),
        (x, n) -> x.rows(0, n), (x, n) -> x.grid(4, 1, n, 0, 0, 0), (x, n) -> x.copy(0, n)};

    private static void sixtyArrays() {
        check.promise("ARRAYS have numbers from 0 on, 60 at most");
        for (Maker maker : MAKERS) {
            DecisionArrays x = new DecisionArrays();
            check.due(x.array(4, 0), 0);
            for (int n = 1; n <= 58; n++) {
                check.due(maker.make(x, 0), n);
            }
            check.fine(x, maker.make(x, 0), 59);
            check.refused(x, maker.make(x, 0), 8);
            check.due(x.count(0), 60);
            check.due(x.about(59, 2), 0);
            check.refused(x, x.about(60, 2), 5);
        }
        for (int before = 57; before <= 60; before++) {
            DecisionArrays x = new DecisionArrays();
            Make.upToArrays(x, before);
            check.due(x.grid(4, 2, 2, 0, 0, 0), before == 57 ? 57 : -8);
            check.due(x.count(0), before == 57 ? 60 : before);
        }
        for (int before = 57; before <= 60; before++) {
            DecisionArrays x = new DecisionArrays();
            x.array(4, 0);
            x.rows(0, 2);
            x.setRow(1, 0, 0);
            x.setRow(1, 1, 0);
            Make.upToArrays(x, before);
            check.due(x.deep(1), before == 57 ? 57 : -8);
            check.due(x.count(0), before == 57 ? 60 : before);
        }
    }

    private static void lengths() {
        check.promise("a length 0 .. 200");
        for (Maker maker : MAKERS) {
            DecisionArrays x = new DecisionArrays();
            x.array(4, 1);
            check.fine(x, maker.make(x, 0), 1);
            check.fine(x, maker.make(x, 1), 2);
            check.fine(x, maker.make(x, 199), 3);
            check.fine(x, maker.make(x, 200), 4);
            check.refused(x, maker.make(x, 201), 8);
            check.refused(x, maker.make(x, Integer.MAX_VALUE), 8);
            check.refused(x, maker.make(x, -1), 4);
            check.refused(x, maker.make(x, Integer.MIN_VALUE), 4);
            check.due(x.about(1, 2), 0);
            check.due(x.about(4, 2), 200);
            check.due(x.count(0), 5);
            check.due(x.count(1), 401);
        }
    }

    private static void fourThousandElements() {
        check.promise("All together have 4000 elements at most");
        for (Maker maker : MAKERS) {
            for (int n = 49; n <= 51; n++) {
                DecisionArrays x = new DecisionArrays();
                x.array(4, 10);
                Make.upToElements(x, 3950);
                int before = x.count(0);
                check.due(maker.make(x, n), n <= 50 ? before : -8);
                check.due(x.count(1), n <= 50 ? 3950 + n : 3950);
            }
            DecisionArrays x = new DecisionArrays();
            Make.upToElements(x, 4000);
            check.refused(x, maker.make(x, 1), 8);
            check.fine(x, maker.make(x, 0), 20);
            check.due(x.count(1), 4000);
        }
    }

    private static void rowsCountAsElements() {
        check.promise("4000 elements at most, ROWS too");
        for (int before = 3936; before <= 3940; before++) {
            DecisionArrays x = new DecisionArrays();
            Make.upToElements(x, before);
            boolean fits = before + 4 + 4 * 15 <= 4000;
            check.due(x.grid(5, 2, 4, 15, 0, 0), fits ? x.count(0) - 5 : -8);
            check.due(x.count(1), fits ? before + 64 : before);
        }
        for (int before = 3936; before <= 3940; before++) {
            DecisionArrays x = new DecisionArrays();
            x.array(5, 15);
            x.rows(0, 4);
            for (int i = 0; i < 4; i++) {
                x.setRow(1, i, 0);
            }
            Make.upToElements(x, before);
            boolean fits = before + 4 + 4 * 15 <= 4000;
            check.due(x.deep(1), fits ? x.count(0) - 5 : -8);
            check.due(x.count(1), fits ? before + 64 : before);
        }
    }

    private static void fourDeep() {
        check.promise("a DEPTH 1 .. 4");
        for (int depth = 0; depth <= 5; depth++) {
            DecisionArrays x = new DecisionArrays();
            boolean told = depth >= 1 && depth <= 4;
            check.due(x.grid(3, depth, 1, 1, 1, 1), told ? 0 : -9);
            check.due(x.count(0), told ? depth : 0);
            check.due(x.about(0, 1), told ? depth : -5);
            check.due(x.rows(0, 1), !told ? -5 : depth < 4 ? depth : -9);
        }
        DecisionArrays x = new DecisionArrays();
        check.refused(x, x.grid(3, Integer.MIN_VALUE, 1, 1, 1, 1), 9);
        check.refused(x, x.grid(3, Integer.MAX_VALUE, 1, 1, 1, 1), 9);
    }

    private static void atFirst() {
        check.promise("at first BITS 0, ROWS null");
        for (int kind = 0; kind <= 8; kind++) {
            DecisionArrays x = new DecisionArrays();
            x.array(kind, 200);
            x.rows(0, 200);
            check.fine(x, x.read(0, 0, 0, 0, 0, kind), 0);
            check.fine(x, x.read(0, 199, 0, 0, 0, kind), 0);
            check.fine(x, x.row(1, 0), -1);
            check.fine(x, x.row(1, 199), -1);
            check.due(x.about(1, 4), 200);
            check.due(x.about(0, 4), 0);
            check.due(x.about(0, 5), 0);
        }
    }

    private static void classesOfArrays() {
        check.promise("a CLASS (0 .. 6, of KIND 8; else -1)");
        for (int cls = -1; cls <= 7; cls++) {
            DecisionArrays x = new DecisionArrays();
            boolean told = cls >= 0 && cls <= 6;
            check.due(x.things(cls, 1), told ? 0 : -9);
            if (told) {
                check.due(x.about(x.rows(0, 1), 3), cls);
                check.due(x.about(x.rows(1, 1), 3), cls);
                check.due(x.about(x.copy(2, 1), 3), cls);
                check.due(x.about(x.deep(2), 3), cls);
            }
        }
        for (int kind = 0; kind <= 8; kind++) {
            DecisionArrays x = new DecisionArrays();
            check.due(x.about(x.array(kind, 1), 3), -1);
            check.due(x.about(x.rows(0, 1), 3), -1);
        }
    }

    // ---- a PATH

    private static void pathCounts() {
        check.promise("a PATH, of which as many count as the array is deep");
        for (int any : ANY_INDEX) {
            DecisionArrays x = new DecisionArrays();
            x.grid(4, 4, 1, 1, 1, 2);
            check.fine(x, x.place(3, 1, any, any, any), 3001);
            check.fine(x, x.place(2, 0, 1, any, any), 3001);
            check.fine(x, x.place(1, 0, 0, 1, any), 3001);
            check.fine(x, x.place(0, 0, 0, 0, 1), 3001);
            check.fine(x, x.write(2, 0, 1, any, any, 4, 9), 0);
            check.fine(x, x.read(1, 0, 0, 1, any, 4), 9);
            check.fine(x, x.pin(3, 1, any, any, any, true), 0);
            check.fine(x, x.decide(2, 0, 1, any, any), 0);
        }
    }

    /** Each step at both ends of its array, one below and one above. */
    private static void pathSteps() {
        check.promise("2 an index is not there (each step of the PATH)");
        int[] lengths = {2, 3, 1, 4};
        DecisionArrays x = new DecisionArrays();
        x.grid(6, 4, lengths[0], lengths[1], lengths[2], lengths[3]);
        for (int step = 0; step < 4; step++) {
            int[] tried = {Integer.MIN_VALUE, -1, 0, lengths[step] - 1, lengths[step], Integer.MAX_VALUE};
            for (int index : tried) {
                int[] p = {0, 0, 0, 0};
                p[step] = index;
                boolean there = index >= 0 && index < lengths[step];
                check.silent(x, x.read(0, p[0], p[1], p[2], p[3], 6), 0, there ? 0 : 2);
                check.due(x.write(0, p[0], p[1], p[2], p[3], 6, 0), there ? 0 : -2);
                check.due(x.pin(0, p[0], p[1], p[2], p[3], false), there ? 0 : -2);
                check.due(x.place(0, p[0], p[1], p[2], p[3]) < 0 ? 1 : 0, there ? 0 : 1);
                check.due(x.decide(0, p[0], p[1], p[2], p[3]) < 0 ? 1 : 0, there ? 0 : 1);
            }
        }
    }

    private static void pathThroughNull() {
        check.promise("3 on the PATH a ROW is null; 2 before 3 of the next");
        for (int step = 0; step < 3; step++) {
            DecisionArrays x = new DecisionArrays();
            x.grid(6, 4, 2, 2, 2, 2);
            int above = 0;
            for (int s = 0; s < step; s++) {
                above = x.row(above, 0);
            }
            x.setRow(above, 1, -1);
            int[] p = {0, 0, 0, 0};
            p[step] = 1;
            throughNull(x, p, 3);
            p[step + 1] = 2;
            throughNull(x, p, 3);
            p[step + 1] = -1;
            throughNull(x, p, 3);
            p[step] = 2;
            throughNull(x, p, 2);
            p[step] = -1;
            throughNull(x, p, 2);
            p[step] = 1;
            p[0] = step == 0 ? 1 : 2;
            throughNull(x, p, step == 0 ? 3 : 2);
        }
    }

    private static void throughNull(DecisionArrays x, int[] p, int code) {
        check.silent(x, x.read(0, p[0], p[1], p[2], p[3], 6), 0, code);
        check.refused(x, x.write(0, p[0], p[1], p[2], p[3], 6, 0), code);
        check.refused(x, x.place(0, p[0], p[1], p[2], p[3]), code);
        check.refused(x, x.pin(0, p[0], p[1], p[2], p[3], true), code);
        check.refused(x, x.decide(0, p[0], p[1], p[2], p[3]), code);
    }
}

/** Promises 16 to 23. */
public final class WholeArraysTest {
    private static final Check check = new Check();

    public static void main(String[] args) {
        fill();
        move();
        moveThings();
        moveRows();
        copy();
        deep();
        deepOfShared();
        deepOfFour();
        deepToTheEnd();
        sort();
        sortOfKinds();
        search();
        same();
        hash();
        sharedManyTimes();
        check.end();
    }

    private static int ints(DecisionArrays x, long... values) {
        return Make.of(x, 4, values);
    }

    private static void holds(DecisionArrays x, int a, long... values) {
        check.due(x.about(a, 2), values.length);
        int kind = x.about(a, 0);
        for (int i = 0; i < values.length; i++) {
            check.due(x.read(a, i, 0, 0, 0, kind), values[i]);
        }
    }

    private static void fill() {
        check.promise("16 fill");
        DecisionArrays x = new DecisionArrays();
        x.array(5, 5);
        x.rows(0, 2);
        check.fine(x, x.fill(0, 1, 4, 2, -3), 3);
        holds(x, 0, 0, -3, -3, -3, 0);
        check.fine(x, x.fill(0, 5, 5, 2, 9), 0);
        check.fine(x, x.fill(0, 0, 0, 2, 9), 0);
        check.fine(x, x.fill(0, 4, 5, 5, 9), 1);
        holds(x, 0, 0, -3, -3, -3, 9);
        check.refused(x, x.fill(2, 4, 3, 9, 9), 5);
        check.refused(x, x.fill(0, 4, 3, 9, 9), 9);
        check.refused(x, x.fill(0, 4, 3, 0, 9), 9);
        check.refused(x, x.fill(0, 4, 3, 0, 1), 1);
        check.refused(x, x.fill(0, 4, 3, 6, 1), 1);
        check.refused(x, x.fill(1, 0, 1, 5, 0), 1);
        check.refused(x, x.fill(0, 4, 3, 5, 1), 2);
        check.refused(x, x.fill(0, -1, 3, 5, 1), 2);
        check.refused(x, x.fill(0, 0, 6, 5, 1), 2);
        check.refused(x, x.fill(0, 6, 6, 5, 1), 2);
        x.pin(0, 2, 0, 0, 0, true);
        check.refused(x, x.fill(0, 0, 3, 5, -3), 6);
        check.refused(x, x.fill(0, 2, 5, 5, -3), 6);
        check.fine(x, x.fill(0, 0, 2, 5, 4), 2);
        check.fine(x, x.fill(0, 3, 5, 5, 4), 2);
        holds(x, 0, 4, 4, -3, 4, 4);
        int things = x.things(1, 3);
        check.fine(x, x.fill(things, 0, 3, 8, 8), 3);
        check.refused(x, x.fill(things, 0, 3, 8, 9), 7);
        check.fine(x, x.fill(things, 1, 2, 8, 0), 1);
        holds(x, things, 8, 0, 8);
        x.pin(things, 0, 0, 0, 0, true);
        check.refused(x, x.fill(things, 0, 3, 8, 9), 6);
        int doubles = x.array(7, 2);
        check.fine(x, x.fill(doubles, 0, 2, 6, 0x7F800001L), 2);
        holds(x, doubles, 0x7FF8000000000000L, 0x7FF8000000000000L);
    }

    private static void move() {
        check.promise("17 move");
        DecisionArrays x = new DecisionArrays();
        ints(x, 1, 2, 3, 4, 5);
        ints(x, 0, 0, 0);
        x.array(5, 3);
        check.fine(x, x.move(0, 0, 0, 1, 4), 4);
        holds(x, 0, 1, 1, 2, 3, 4);
        check.fine(x, x.move(0, 2, 0, 0, 3), 3);
        holds(x, 0, 2, 3, 4, 3, 4);
        check.fine(x, x.move(0, 3, 1, 1, 2), 2);
        holds(x, 1, 0, 3, 4);
        check.fine(x, x.move(0, 5, 1, 3, 0), 0);
        check.refused(x, x.move(3, 0, 0, 0, 1), 5);
        check.refused(x, x.move(0, 0, 3, 0, -1), 5);
        check.refused(x, x.move(0, 9, 2, 9, -1), 1);
        check.refused(x, x.move(0, 9, 1, 9, -1), 4);
        check.refused(x, x.move(0, 6, 1, 0, 0), 2);
        check.refused(x, x.move(0, -1, 1, 0, 1), 2);
        check.refused(x, x.move(0, 0, 1, -1, 1), 2);
        check.refused(x, x.move(0, 3, 1, 0, 3), 2);
        check.refused(x, x.move(0, 0, 1, 1, 3), 2);
        check.refused(x, x.move(0, 1, 1, 1, Integer.MAX_VALUE), 2);
        check.refused(x, x.move(0, Integer.MAX_VALUE, 1, 1, Integer.MAX_VALUE), 2);
        x.pin(1, 1, 0, 0, 0, true);
        check.refused(x, x.move(0, 0, 1, 0, 2), 6);
        check.refused(x, x.move(1, 1, 1, 1, 1), 6);
        holds(x, 1, 0, 3, 4);
        check.fine(x, x.move(1, 1, 1, 2, 1), 1);
        check.fine(x, x.move(0, 0, 1, 0, 1), 1);
        check.fine(x, x.move(0, 0, 1, 1, 0), 0);
        holds(x, 1, 2, 3, 3);
    }

    private static void moveThings() {
        check.promise("17 move, THINGS");
        DecisionArrays x = new DecisionArrays();
        Make.of(x, 8, 2, 0, 9, 3, 16);
        x.things(2, 5);
        x.things(3, 5);
        check.refused(x, x.move(0, 0, 1, 0, 5), 7);
        holds(x, 1, 2, 0, 9, 0, 0);
        check.refused(x, x.move(0, 3, 1, 0, 1), 7);
        holds(x, 1, 2, 0, 9, 0, 0);
        check.fine(x, x.move(1, 0, 0, 2, 3), 3);
        holds(x, 0, 2, 0, 2, 0, 9);
        check.fine(x, x.move(1, 3, 2, 0, 2), 2);
        check.refused(x, x.move(1, 0, 2, 0, 1), 7);
        x.pin(1, 4, 0, 0, 0, true);
        x.write(0, 0, 0, 0, 0, 8, 3);
        check.refused(x, x.move(0, 0, 1, 0, 5), 6);
        holds(x, 1, 2, 0, 9, 0, 0);
    }

    private static void moveRows() {
        check.promise("17 move, ROWS");
        DecisionArrays x = new DecisionArrays();
        x.things(1, 1);
        x.array(8, 1);
        x.rows(0, 3);
        x.rows(0, 3);
        x.rows(1, 3);
        x.rows(2, 3);
        x.setRow(2, 1, 0);
        check.fine(x, x.move(2, 0, 3, 1, 2), 2);
        check.due(x.row(3, 1), -1);
        check.due(x.row(3, 2), 0);
        check.fine(x, x.move(3, 1, 3, 0, 2), 2);
        check.due(x.row(3, 1), 0);
        check.refused(x, x.move(2, 0, 4, 0, 1), 1);
        check.refused(x, x.move(2, 0, 5, 0, 1), 1);
        check.refused(x, x.move(2, 0, 0, 0, 1), 1);
        check.refused(x, x.move(4, 0, 2, 0, 0), 1);
        check.fine(x, x.move(1, 0, 0, 0, 1), 1);
        DecisionArrays y = new DecisionArrays();
        for (int i = 0; i < 5; i++) {
            y.things(1, 1);
        }
        y.rows(0, 4);
        y.rows(0, 4);
        for (int i = 0; i < 4; i++) {
            y.setRow(5, i, i + 1);
        }
        check.fine(y, y.move(5, 0, 6, 0, 4), 4);
        check.due(y.row(6, 3), 4);
    }

    private static void copy() {
        check.promise("18 copy");
        DecisionArrays x = new DecisionArrays();
        ints(x, 1, 2, 3);
        x.pin(0, 1, 0, 0, 0, true);
        check.fine(x, x.copy(0, 5), 1);
        holds(x, 1, 1, 2, 3, 0, 0);
        check.due(x.about(1, 5), 0);
        check.fine(x, x.copy(0, 2), 2);
        holds(x, 2, 1, 2);
        check.fine(x, x.write(2, 0, 0, 0, 0, 4, 9), 0);
        holds(x, 0, 1, 2, 3);
        check.fine(x, x.copy(0, 0), 3);
        x.rows(0, 2);
        x.setRow(4, 0, 0);
        check.fine(x, x.copy(4, 3), 5);
        check.due(x.row(5, 0), 0);
        check.due(x.row(5, 1), -1);
        check.due(x.row(5, 2), -1);
        check.due(x.about(5, 1), 2);
        check.refused(x, x.copy(6, -1), 5);
        check.refused(x, x.copy(0, -1), 4);
        check.refused(x, x.copy(0, 201), 8);
        check.due(x.count(0), 6);
        x.things(4, 1);
        check.fine(x, x.copy(6, 200), 7);
        check.due(x.about(7, 3), 4);
    }

    private static void deep() {
        check.promise("19 deep");
        DecisionArrays x = new DecisionArrays();
        x.things(4, 2);
        x.rows(0, 3);
        x.rows(1, 2);
        x.write(0, 1, 0, 0, 0, 8, 11);
        x.pin(0, 1, 0, 0, 0, true);
        x.setRow(1, 0, 0);
        x.setRow(1, 2, 0);
        x.setRow(2, 0, 1);
        x.setRow(2, 1, 1);
        check.fine(x, x.deep(2), 3);
        int[] depths = {3, 2, 1, 1, 2, 1, 1};
        check.due(x.count(0), 3 + depths.length);
        for (int a = 0; a < depths.length; a++) {
            check.due(x.about(3 + a, 1), depths[a]);
            check.due(x.about(3 + a, 3), 4);
            check.due(x.about(3 + a, 5), 0);
        }
        check.due(x.row(3, 0), 4);
        check.due(x.row(3, 1), 7);
        check.due(x.row(4, 0), 5);
        check.fine(x, x.row(4, 1), -1);
        check.due(x.row(4, 2), 6);
        check.due(x.row(7, 2), 9);
        check.due(x.same(2, 3), 1);
        check.fine(x, x.write(3, 1, 2, 1, 0, 8, 4), 0);
        check.due(x.read(0, 1, 0, 0, 0, 8), 11);
        check.due(x.read(5, 1, 0, 0, 0, 8), 11);
        check.due(x.same(2, 3), 0);
        check.fine(x, x.deep(0), 10);
        check.due(x.same(0, 10), 1);
        check.refused(x, x.deep(11), 5);
        check.refused(x, x.deep(-1), 5);
    }

    private static void deepOfShared() {
        check.promise("19 deep, bounds");
        DecisionArrays x = new DecisionArrays();
        x.array(4, 1);
        x.rows(0, 57);
        for (int i = 0; i < 57; i++) {
            x.setRow(1, i, 0);
        }
        check.fine(x, x.deep(1), 2);
        check.due(x.count(0), 60);
        DecisionArrays y = new DecisionArrays();
        y.array(4, 1);
        y.rows(0, 58);
        for (int i = 0; i < 58; i++) {
            y.setRow(1, i, 0);
        }
        check.refused(y, y.deep(1), 8);
        check.due(y.count(0), 2);
        check.due(y.count(1), 59);
        DecisionArrays z = new DecisionArrays();
        z.array(4, 200);
        z.rows(0, 20);
        for (int i = 0; i < 19; i++) {
            z.setRow(1, i, 0);
        }
        check.refused(z, z.deep(1), 8);
        check.due(z.count(1), 220);
        z.setRow(1, 0, -1);
        check.fine(z, z.deep(1), 2);
        check.due(z.count(1), 220 + 20 + 18 * 200);
    }

    private static void deepOfFour() {
        check.promise("19 deep, DEPTH 4");
        DecisionArrays x = new DecisionArrays();
        x.grid(5, 4, 2, 1, 2, 3);
        check.due(x.count(0), 9);
        check.due(x.count(1), 20);
        x.write(0, 1, 0, 1, 2, 5, 77);
        x.setRow(1, 0, -1);
        check.fine(x, x.deep(0), 9);
        check.due(x.count(0), 15);
        check.due(x.count(1), 20 + 2 + 2 + 2 + 6);
        check.due(x.same(0, 9), 1);
        check.due(x.read(9, 1, 0, 1, 2, 5), 77);
        check.due(x.place(9, 1, 0, 1, 2), 14002);
        check.refused(x, x.place(9, 0, 0, 0, 0), 3);
        x.write(9, 1, 0, 1, 2, 5, 78);
        check.due(x.read(0, 1, 0, 1, 2, 5), 77);
        DecisionArrays y = new DecisionArrays();
        y.grid(5, 4, 1, 1, 28, 1);
        check.due(y.count(0), 31);
        check.refused(y, y.deep(0), 8);
        y.setRow(2, 0, -1);
        check.refused(y, y.deep(0), 8);
        y.setRow(2, 1, -1);
        check.fine(y, y.deep(0), 31);
        check.due(y.count(0), 60);
    }

    /** To the last element: 2000 and 2000 more. */
    private static void deepToTheEnd() {
        check.promise("19 deep, 4000 elements");
        DecisionArrays x = new DecisionArrays();
        x.grid(5, 2, 10, 199, 0, 0);
        check.fine(x, x.deep(0), 11);
        check.due(x.count(1), 4000);
        DecisionArrays y = new DecisionArrays();
        y.grid(5, 2, 10, 199, 0, 0);
        y.array(5, 1);
        check.refused(y, y.deep(0), 8);
        check.due(y.count(1), 2001);
    }

    private static void sort() {
        check.promise("20 sort");
        DecisionArrays x = new DecisionArrays();
        ints(x, 5, 4, 3, 2, 1);
        x.rows(0, 1);
        check.fine(x, x.sort(0, 1, 4), 2);
        holds(x, 0, 5, 2, 3, 4, 1);
        check.fine(x, x.sort(0, 0, 5), 2);
        holds(x, 0, 1, 2, 3, 4, 5);
        check.fine(x, x.sort(0, 0, 5), 0);
        check.fine(x, x.sort(0, 5, 5), 0);
        check.refused(x, x.sort(2, 0, 0), 5);
        check.refused(x, x.sort(1, 0, 9), 1);
        check.refused(x, x.sort(0, 3, 2), 2);
        check.refused(x, x.sort(0, -1, 2), 2);
        check.refused(x, x.sort(0, 0, 6), 2);
        x.write(0, 0, 0, 0, 0, 4, 9);
        x.pin(0, 4, 0, 0, 0, true);
        check.refused(x, x.sort(0, 0, 5), 6);
        check.refused(x, x.sort(0, 4, 5), 6);
        holds(x, 0, 9, 2, 3, 4, 5);
        check.fine(x, x.sort(0, 0, 4), 4);
        holds(x, 0, 2, 3, 4, 9, 5);
    }

    private static void sortOfKinds() {
        check.promise("20 sort, kinds");
        DecisionArrays x = new DecisionArrays();
        int flags = Make.of(x, 0, 1, 0, 1, 0);
        check.due(x.sort(flags, 0, 4), 2);
        holds(x, flags, 0, 0, 1, 1);
        int things = Make.of(x, 8, 1000, 0, 7, 6);
        check.due(x.sort(things, 0, 4), 3);
        holds(x, things, 0, 6, 7, 1000);
        int longs = Make.of(x, 5, Long.MAX_VALUE, Long.MIN_VALUE, 0, -1);
        x.sort(longs, 0, 4);
        holds(x, longs, Long.MIN_VALUE, -1, 0, Long.MAX_VALUE);
        double[] reals = {Double.NaN, 1.5, 0.0, -0.0, -1.5, Double.NEGATIVE_INFINITY, Double.POSITIVE_INFINITY, 4e-324};
        int doubles = x.array(7, reals.length);
        int floats = x.array(6, reals.length);
        for (int i = 0; i < reals.length; i++) {
            x.write(doubles, i, 0, 0, 0, 7, Double.doubleToLongBits(reals[i]));
            x.write(floats, i, 0, 0, 0, 6, Float.floatToIntBits((float) reals[i]));
        }
        x.sort(doubles, 0, reals.length);
        x.sort(floats, 0, reals.length);
        float[] small = new float[reals.length];
        for (int i = 0; i < reals.length; i++) {
            small[i] = (float) reals[i];
        }
        java.util.Arrays.sort(reals);
        java.util.Arrays.sort(small);
        for (int i = 0; i < reals.length; i++) {
            check.due(x.read(doubles, i, 0, 0, 0, 7), Double.doubleToLongBits(reals[i]));
            check.due(x.read(floats, i, 0, 0, 0, 6), Float.floatToIntBits(small[i]));
        }
        int many = x.array(4, 200);
        for (int i = 0; i < 200; i++) {
            x.write(many, i, 0, 0, 0, 4, (i * 7919L) % 200 - 100);
        }
        x.sort(many, 0, 200);
        for (int i = 0; i < 200; i++) {
            check.due(x.read(many, i, 0, 0, 0, 4), i - 100);
        }
    }

    private static void search() {
        check.promise("21 search");
        DecisionArrays x = new DecisionArrays();
        ints(x, 1, 3, 3, 3, 7);
        x.rows(0, 1);
        check.fine(x, x.search(0, 3), 2);
        check.fine(x, x.search(0, 1), 0);
        check.fine(x, x.search(0, 7), 4);
        check.fine(x, x.search(0, 0), -100);
        check.fine(x, x.search(0, 2), -101);
        check.fine(x, x.search(0, 5), -104);
        check.fine(x, x.search(0, 8), -105);
        check.refused(x, x.search(2, 1L << 40), 5);
        check.refused(x, x.search(0, 1L << 40), 9);
        check.refused(x, x.search(1, 1L << 40), 9);
        check.refused(x, x.search(1, 1), 1);
        int unsorted = ints(x, 4, 1, 3, 2);
        check.fine(x, x.search(unsorted, 1), 1);
        check.fine(x, x.search(unsorted, 4), -104);
        check.fine(x, x.search(unsorted, 2), -102);
        check.fine(x, x.search(x.array(4, 0), 2), -100);
        int reals = Make.of(x, 7, Double.doubleToLongBits(-0.0), 0, Double.doubleToLongBits(2.0), 0x7FF8000000000000L);
        check.fine(x, x.search(reals, Long.MIN_VALUE), 0);
        check.fine(x, x.search(reals, 0), 1);
        check.fine(x, x.search(reals, -1), 3);
        check.fine(x, x.search(reals, Double.doubleToLongBits(Double.POSITIVE_INFINITY)), -103);
        int things = x.things(2, 1);
        check.fine(x, x.search(things, 3), -101);
        check.refused(x, x.search(things, 1001), 9);
    }

    private static void same() {
        check.promise("22 same");
        DecisionArrays x = new DecisionArrays();
        ints(x, 1, 2);
        ints(x, 1, 2);
        Make.of(x, 5, 1, 2);
        ints(x, 1, 3);
        ints(x, 1, 2, 0);
        check.fine(x, x.same(0, 1), 1);
        check.fine(x, x.same(0, 0), 1);
        check.fine(x, x.same(0, 2), 0);
        check.fine(x, x.same(0, 3), 0);
        check.fine(x, x.same(0, 4), 0);
        check.refused(x, x.same(0, 5), 5);
        check.refused(x, x.same(-1, 0), 5);
        x.pin(0, 0, 0, 0, 0, true);
        check.fine(x, x.same(0, 1), 1);
        x.rows(0, 2);
        x.rows(0, 2);
        check.fine(x, x.same(5, 6), 1);
        x.setRow(5, 0, 0);
        check.fine(x, x.same(5, 6), 0);
        check.fine(x, x.same(6, 5), 0);
        x.setRow(6, 0, 1);
        check.fine(x, x.same(5, 6), 1);
        x.write(1, 0, 0, 0, 0, 4, 8);
        check.fine(x, x.same(5, 6), 0);
        x.write(1, 0, 0, 0, 0, 4, 1);
        x.setRow(6, 0, 3);
        check.fine(x, x.same(5, 6), 0);
        int empty = x.rows(0, 0);
        check.fine(x, x.same(empty, x.rows(2, 0)), 0);
        check.fine(x, x.same(empty, x.rows(empty, 0)), 0);
        check.fine(x, x.same(empty, x.rows(1, 0)), 1);
        check.fine(x, x.same(x.things(1, 2), x.array(8, 2)), 1);
        check.fine(x, x.same(Make.of(x, 6, 0), Make.of(x, 6, Integer.MIN_VALUE)), 0);
        check.fine(x, x.same(Make.of(x, 6, 0x7FC00000L), Make.of(x, 6, -1)), 1);
    }

    private static void hash() {
        check.promise("23 hash");
        DecisionArrays x = new DecisionArrays();
        check.fine(x, x.hash(Make.of(x, 0, 1, 0)), java.util.Arrays.hashCode(new boolean[] {true, false}));
        check.fine(x, x.hash(Make.of(x, 1, 65535, 7)), java.util.Arrays.hashCode(new char[] {65535, 7}));
        check.fine(x, x.hash(Make.of(x, 2, -1, 7)), java.util.Arrays.hashCode(new byte[] {-1, 7}));
        check.fine(x, x.hash(Make.of(x, 3, -300, 7)), java.util.Arrays.hashCode(new short[] {-300, 7}));
        check.fine(x, x.hash(Make.of(x, 4, -70000, 7)), java.util.Arrays.hashCode(new int[] {-70000, 7}));
        check.fine(x, x.hash(Make.of(x, 5, -7L << 40, 7)), java.util.Arrays.hashCode(new long[] {-7L << 40, 7}));
        check.fine(x, x.hash(Make.of(x, 6, -1, 0x3F800000L)), java.util.Arrays.hashCode(new float[] {Float.NaN, 1f}));
        check.fine(x, x.hash(Make.of(x, 7, -1, 0)), java.util.Arrays.hashCode(new double[] {Double.NaN, 0}));
        check.fine(x, x.hash(Make.of(x, 8, 0, 1000)), java.util.Arrays.hashCode(new int[] {0, 1000}));
        check.fine(x, x.hash(x.array(4, 0)), 1);
        int rows = x.rows(4, 3);
        x.setRow(rows, 0, 4);
        x.setRow(rows, 2, 4);
        int[] row = {-70000, 7};
        check.fine(x, x.hash(rows), java.util.Arrays.deepHashCode(new int[][] {row, null, row}));
        x.write(4, 0, 0, 0, 0, 4, 1);
        check.fine(x, x.hash(4), java.util.Arrays.hashCode(new int[] {1, 7}));
        x.write(0, 0, 0, 0, 0, 0, 0);
        check.fine(x, x.hash(0), java.util.Arrays.hashCode(new boolean[] {false, false}));
        check.silent(x, x.hash(99), 0, 5);
        check.silent(x, x.hash(-1), 0, 5);
    }

    /** Through shared ROWS 1600 million elements are met: the calls must end all the same. */
    private static void sharedManyTimes() {
        check.promise("19, 22, 23 with ROWS that are shared");
        DecisionArrays x = new DecisionArrays();
        for (int tower = 0; tower < 2; tower++) {
            int below = x.array(4, 200);
            for (int depth = 2; depth <= 4; depth++) {
                int above = x.rows(below, 200);
                x.setRow(above, 0, below);
                for (int have = 1; have < 200; have *= 2) {
                    x.move(above, 0, above, have, Math.min(have, 200 - have));
                }
                check.due(x.about(above, 4), 0);
                below = above;
            }
        }
        check.fine(x, x.same(3, 7), 1);
        check.refused(x, x.deep(3), 8);
        int hash = 1;
        for (int depth = 1; depth <= 4; depth++) {
            int above = 1;
            for (int i = 0; i < 200; i++) {
                above = 31 * above + (depth == 1 ? 0 : hash);
            }
            hash = above;
        }
        check.fine(x, x.hash(3), hash);
        x.write(4, 199, 0, 0, 0, 4, 1);
        check.fine(x, x.same(3, 7), 0);
    }
}

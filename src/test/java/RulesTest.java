/** Promises 30 to 33. */
public final class RulesTest {
    private static final Check check = new Check();
    private static final long MOST = 1000000;

    public static void main(String[] args) {
        rule();
        sum();
        sumOfReals();
        unlike();
        rising();
        count();
        changes();
        far();
        score();
        best();
        bestOfSeveral();
        bestPinned();
        bestBounds();
        bestOverArrays();
        check.end();
    }

    private static long amount(DecisionArrays x, int sort, int a, long low, long high) {
        int r = x.rule(sort, a, 1, low, high);
        check.due(x.code(), 0);
        long amount = x.amount(r);
        check.due(x.code(), 0);
        return amount;
    }

    private static void rule() {
        check.promise("30 rule");
        DecisionArrays x = new DecisionArrays();
        x.array(2, 3);
        x.rows(0, 1);
        check.refused(x, x.rule(9, 2, 9999, 0, 0), 5);
        check.refused(x, x.rule(6, 0, 0, 0, 0), 9);
        check.refused(x, x.rule(-1, 1, 0, 0, 0), 9);
        check.refused(x, x.rule(0, 0, 1001, 0, 0), 9);
        check.refused(x, x.rule(0, 1, -1001, 0, 0), 9);
        check.refused(x, x.rule(3, 0, 0, 128, 0), 9);
        check.refused(x, x.rule(3, 1, 0, 128, 0), 9);
        check.refused(x, x.rule(3, 1, 0, 127, 0), 1);
        check.refused(x, x.rule(0, 1, 0, 128, 0), 1);
        check.due(x.count(3), 0);
        for (int r = 0; r < 12; r++) {
            check.fine(x, x.rule(r % 6, 0, r % 2 == 0 ? 1000 : -1000, 1, 1), r);
        }
        check.refused(x, x.rule(0, 0, 1, 1, 1), 8);
        check.refused(x, x.rule(0, 1, 1, 1, 1), 1);
        check.refused(x, x.rule(0, 0, 1001, 1, 1), 9);
        check.due(x.count(3), 12);
        check.silent(x, x.amount(12), 0, 9);
        check.silent(x, x.amount(-1), 0, 9);
    }

    private static void sum() {
        check.promise("31 amount, SUM");
        DecisionArrays x = new DecisionArrays();
        int a = Make.of(x, 4, 5, -3, 10);
        check.due(amount(x, 0, a, 12, 12), 0);
        check.due(amount(x, 0, a, 15, 20), 3);
        check.due(amount(x, 0, a, 0, 7), 5);
        check.due(amount(x, 0, a, 15, 7), 3);
        check.due(amount(x, 0, a, 12, 7), 5);
        check.due(amount(x, 0, a, Long.MAX_VALUE, 0), MOST);
        check.due(amount(x, 0, a, 0, Long.MIN_VALUE), MOST);
        check.due(amount(x, 0, a, 12 + MOST, Long.MAX_VALUE), MOST);
        check.due(amount(x, 0, a, 11 + MOST, Long.MAX_VALUE), MOST - 1);
        int b = Make.of(x, 5, Long.MAX_VALUE, 2);
        check.due(amount(x, 0, b, Long.MIN_VALUE + 4, 0), 3);
        check.due(amount(x, 0, Make.of(x, 0, 1, 1, 0), 5, 5), 3);
        check.due(amount(x, 0, Make.of(x, 8, 1000, 0, 1), 0, 0), 1001);
        DecisionArrays y = new DecisionArrays();
        check.due(amount(y, 0, y.array(4, 0), 2, 5), 2);
        check.due(amount(y, 0, Make.of(y, 1, 65535), 0, 65530), 5);
    }

    private static void sumOfReals() {
        check.promise("31 amount, SUM of floats and doubles");
        double[] reals = {0.99, -0.99, 1.5, -1.5, 1e6 - 0.5, 4503599627370497.5, 9007199254740993.0, 1e18, -1e18,
            9.223372036854775E18, Long.MAX_VALUE, Long.MIN_VALUE, 1e30, -1e30, Double.NaN, Double.POSITIVE_INFINITY,
            Double.NEGATIVE_INFINITY, Double.MIN_VALUE, -Double.MIN_VALUE, Double.MAX_VALUE, 0.0, -0.0};
        for (double real : reals) {
            DecisionArrays x = new DecisionArrays();
            long whole = (long) real;
            int a = Make.doubles(x, real);
            check.due(amount(x, 0, a, whole, whole), 0);
            check.due(amount(x, 0, a, whole + 1, whole + 1), whole == Long.MAX_VALUE ? MOST : 1);
            float small = (float) real;
            int b = Make.floats(x, small);
            check.due(amount(x, 0, b, (long) small, (long) small), 0);
            check.due(amount(x, 0, b, Long.MIN_VALUE, (long) small - 1), (long) small == Long.MIN_VALUE ? 0 : 1);
        }
        DecisionArrays x = new DecisionArrays();
        check.due(amount(x, 0, Make.doubles(x, 0.9, 0.9, 2.9), 0, 0), 2);
    }

    private static void unlike() {
        check.promise("31 amount, UNLIKE");
        DecisionArrays x = new DecisionArrays();
        check.due(amount(x, 1, Make.of(x, 4, 1, 2, 1, 1, 2, 7), 0, 0), 4);
        check.due(amount(x, 1, Make.floats(x, 0f, -0f, Float.NaN, Float.NaN, 0f, 1f), 0, 0), 3);
        check.due(amount(x, 1, Make.doubles(x, 0, -0.0, Double.NaN, Double.NaN, 1, 1), 0, 0), 2);
        check.due(amount(x, 1, Make.of(x, 8, 0, 0, 5, 12), 0, 0), 1);
        check.due(amount(x, 1, Make.of(x, 5, -1, 0, -1), 0, 0), 1);
        check.due(amount(x, 1, Make.of(x, 4, -1, 0), 0, 0), 0);
        check.due(amount(x, 1, x.array(0, 200), 0, 0), 19900);
        check.due(amount(x, 1, x.array(0, 1), 0, 0), 0);
        check.due(amount(x, 1, x.array(0, 0), 0, 0), 0);
        float least = Float.MIN_VALUE;
        check.due(amount(x, 1, Make.floats(x, -least, 0f, -0f, -least), 0, 0), 2);
    }

    private static void rising() {
        check.promise("31 amount, RISING");
        DecisionArrays x = new DecisionArrays();
        check.due(amount(x, 2, Make.of(x, 4, 1, 1, 0, 5, 4, 3), 0, 0), 3);
        check.due(amount(x, 2, Make.doubles(x, Double.NaN, Double.POSITIVE_INFINITY, 0, -0.0, Double.NaN, Double.NaN), 0, 0), 3);
        check.due(amount(x, 2, Make.floats(x, Float.NEGATIVE_INFINITY, -1, -2, -0f, 0f, Float.NaN, 5), 0, 0), 2);
        check.due(amount(x, 2, Make.of(x, 8, 7, 0, 6), 0, 0), 1);
        check.due(amount(x, 2, Make.of(x, 5, Long.MAX_VALUE, Long.MIN_VALUE), 0, 0), 1);
        check.due(amount(x, 2, x.array(4, 0), 0, 0), 0);
    }

    private static void count() {
        check.promise("31 amount, COUNT");
        DecisionArrays x = new DecisionArrays();
        int a = Make.of(x, 4, 3, 3, 4);
        check.due(amount(x, 3, a, 3, 2), 0);
        check.due(amount(x, 3, a, 3, 0), 2);
        check.due(amount(x, 3, a, 3, 5), 3);
        check.due(amount(x, 3, a, 9, -4), 4);
        check.due(amount(x, 3, a, 3, Long.MIN_VALUE), MOST);
        check.due(amount(x, 3, a, 3, Long.MAX_VALUE), MOST);
        int b = Make.floats(x, 0f, -0f, Float.NaN, Float.NaN);
        check.due(amount(x, 3, b, 0, 0), 1);
        check.due(amount(x, 3, b, Integer.MIN_VALUE, 0), 1);
        check.due(amount(x, 3, b, 0x7F800001L, 0), 2);
        check.due(amount(x, 3, Make.of(x, 8, 0, 9), 0, 0), 1);
        int c = Make.doubles(x, Double.NaN);
        check.due(amount(x, 3, c, -1, 0), 1);
    }

    private static void changes() {
        check.promise("31 amount, CHANGES");
        DecisionArrays x = new DecisionArrays();
        check.due(amount(x, 4, Make.of(x, 4, 1, 1, 2, 1, 1), 0, 0), 2);
        check.due(amount(x, 4, Make.doubles(x, 0, -0.0, Double.NaN, Double.NaN), 0, 0), 2);
        check.due(amount(x, 4, x.array(4, 0), 0, 0), 0);
    }

    private static void far() {
        check.promise("31 amount, FAR");
        DecisionArrays x = new DecisionArrays();
        check.due(amount(x, 5, Make.of(x, 4, 1, 5, -2, 4), 0, 0), 7);
        check.due(amount(x, 5, Make.of(x, 5, Long.MIN_VALUE, Long.MAX_VALUE), 0, 0), MOST);
        check.due(amount(x, 5, Make.of(x, 5, Long.MAX_VALUE, -1), 0, 0), MOST);
        check.due(amount(x, 5, Make.of(x, 4, 0, 1000000), 0, 0), MOST);
        check.due(amount(x, 5, Make.of(x, 4, 0, 999999), 0, 0), 999999);
        check.due(amount(x, 5, Make.doubles(x, 1.9, -1.9, Double.NaN), 0, 0), 2);
        check.due(amount(x, 5, Make.floats(x, 1.9f, 7.1f), 0, 0), 6);
        check.due(amount(x, 5, Make.of(x, 8, 0, 1000), 0, 0), 1000);
        check.due(amount(x, 5, Make.of(x, 0, 0, 1), 0, 0), 1);
        check.due(amount(x, 5, Make.of(x, 4, 9), 0, 0), 0);
        check.due(amount(x, 5, x.array(4, 0), 0, 0), 0);
    }

    private static void score() {
        check.promise("32 score");
        DecisionArrays x = new DecisionArrays();
        check.due(x.score(), 0);
        int a = Make.of(x, 4, 3, 3, 4);
        x.rule(1, a, 1000, 0, 0);
        check.due(x.score(), 1000);
        x.rule(4, a, -7, 0, 0);
        check.due(x.score(), 993);
        x.rule(0, a, 0, 100, 100);
        check.due(x.score(), 993);
        x.write(a, 0, 0, 0, 0, 4, 1);
        check.due(x.score(), -14);
        for (int r = 0; r < 9; r++) {
            x.rule(0, a, 1000, Long.MAX_VALUE, Long.MAX_VALUE);
        }
        check.due(x.score(), 9000000000L - 14);
    }

    private static void best() {
        check.promise("33 best");
        DecisionArrays x = new DecisionArrays();
        int a = Make.of(x, 4, 0, 0, 0);
        check.fine(x, x.best(), 1);
        for (int i = 0; i < 3; i++) {
            x.decide(a, i, 0, 0, 0);
            x.span(i, 1, 4, 1);
        }
        x.rule(0, a, 10, 7, 7);
        x.rule(1, a, 5, 0, 0);
        x.rule(2, a, 1, 0, 0);
        check.fine(x, x.best(), 64);
        check.due(x.count(5), 64);
        check.due(x.score(), 0);
        long[] due = {1, 2, 4};
        for (int i = 0; i < 3; i++) {
            check.due(x.read(a, i, 0, 0, 0, 4), due[i]);
        }
        x.rule(0, a, -1000, 0, 0);
        check.fine(x, x.best(), 64);
        for (int i = 0; i < 3; i++) {
            check.due(x.read(a, i, 0, 0, 0, 4), 4);
        }
    }

    private static void bestOfSeveral() {
        check.promise("33 best, the first of several");
        DecisionArrays x = new DecisionArrays();
        int a = Make.of(x, 4, 9, 9);
        x.decide(a, 1, 0, 0, 0);
        x.decide(a, 0, 0, 0, 0);
        for (int value = 3; value >= 0; value--) {
            x.candidate(0, value);
            x.candidate(1, value);
        }
        check.fine(x, x.best(), 16);
        check.due(x.decision(0, 3), 0);
        check.due(x.decision(1, 3), 0);
        x.rule(0, a, 1, 4, 4);
        x.best();
        check.due(x.read(a, 1, 0, 0, 0, 4), 3);
        check.due(x.read(a, 0, 0, 0, 0, 4), 1);
        x.rule(1, a, 1, 0, 0);
        x.rule(3, a, 1, 3, 0);
        x.best();
        check.due(x.read(a, 1, 0, 0, 0, 4), 3);
        check.due(x.read(a, 0, 0, 0, 0, 4), 1);
    }

    private static void bestPinned() {
        check.promise("33 best, PINNED and without CANDIDATES");
        DecisionArrays x = new DecisionArrays();
        int a = Make.of(x, 4, 9, 8, 7);
        for (int i = 0; i < 3; i++) {
            x.decide(a, i, 0, 0, 0);
        }
        x.span(0, 1, 3, 1);
        x.span(1, 1, 3, 1);
        x.rule(0, a, 1, 0, 0);
        x.pin(a, 1, 0, 0, 0, true);
        check.fine(x, x.best(), 3);
        check.due(x.count(5), 3);
        check.due(x.read(a, 0, 0, 0, 0, 4), 1);
        check.due(x.read(a, 1, 0, 0, 0, 4), 8);
        check.due(x.read(a, 2, 0, 0, 0, 4), 7);
        x.pin(a, 0, 0, 0, 0, true);
        check.fine(x, x.best(), 1);
        check.due(x.score(), 16);
        x.candidate(2, 4);
        check.fine(x, x.best(), 1);
        check.due(x.read(a, 2, 0, 0, 0, 4), 4);
        check.due(x.score(), 13);
    }

    private static void bestBounds() {
        check.promise("33 best, bounds");
        DecisionArrays x = new DecisionArrays();
        int a = x.array(4, 24);
        int[] sizes = {5, 10, 10, 10, 1};
        for (int d = 0; d < sizes.length; d++) {
            x.decide(a, d, 0, 0, 0);
            x.span(d, 1, sizes[d], 1);
        }
        check.due(x.count(5), 5000);
        check.fine(x, x.best(), 5000);
        check.due(x.read(a, 0, 0, 0, 0, 4), 1);
        x.write(a, 0, 0, 0, 0, 4, 77);
        x.candidate(4, 2);
        check.due(x.count(5), 5001);
        check.refused(x, x.best(), 8);
        check.due(x.read(a, 0, 0, 0, 0, 4), 77);
        x.pin(a, 1, 0, 0, 0, true);
        check.fine(x, x.best(), 1000);
        x.pin(a, 1, 0, 0, 0, false);
        for (int d = 5; d < 24; d++) {
            x.decide(a, d, 0, 0, 0);
            x.span(d, 1, 16, 1);
        }
        check.fine(x, x.count(5), 5001);
        check.refused(x, x.best(), 8);
    }

    /** Rules on arrays in which only earlier, only later, or no DECISIONS lie. */
    private static void bestOverArrays() {
        check.promise("33 best, several arrays");
        DecisionArrays x = new DecisionArrays();
        int a = Make.of(x, 4, 0, 0);
        int b = Make.of(x, 5, 0, 0);
        int c = Make.of(x, 4, 1, 1, 1);
        x.decide(a, 0, 0, 0, 0);
        x.decide(b, 1, 0, 0, 0);
        x.decide(a, 1, 0, 0, 0);
        for (int d = 0; d < 3; d++) {
            x.span(d, 0, 5, 1);
        }
        x.rule(0, a, 3, 7, 7);
        x.rule(5, a, 1, 0, 0);
        x.rule(0, b, 2, 4, 4);
        x.rule(1, c, 1, 0, 0);
        check.fine(x, x.best(), 216);
        check.due(x.read(a, 0, 0, 0, 0, 4), 3);
        check.due(x.read(a, 1, 0, 0, 0, 4), 4);
        check.due(x.read(b, 1, 0, 0, 0, 5), 4);
        check.due(x.score(), 4);
    }
}

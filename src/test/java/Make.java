/** Arrays with their values, as tests want them. */
final class Make {
    static int of(DecisionArrays x, int kind, long... values) {
        int a = x.array(kind, values.length);
        for (int i = 0; i < values.length; i++) {
            x.write(a, i, 0, 0, 0, kind, values[i]);
        }
        return a;
    }

    static int floats(DecisionArrays x, float... values) {
        int a = x.array(6, values.length);
        for (int i = 0; i < values.length; i++) {
            x.write(a, i, 0, 0, 0, 6, Float.floatToRawIntBits(values[i]));
        }
        return a;
    }

    static int doubles(DecisionArrays x, double... values) {
        int a = x.array(7, values.length);
        for (int i = 0; i < values.length; i++) {
            x.write(a, i, 0, 0, 0, 7, Double.doubleToRawLongBits(values[i]));
        }
        return a;
    }

    /** Many empty arrays, up to a number of arrays in all. */
    static void upToArrays(DecisionArrays x, int arrays) {
        while (x.count(0) < arrays) {
            x.array(4, 0);
        }
    }

    /** Arrays as long as can be, up to a number of elements in all. */
    static void upToElements(DecisionArrays x, int elements) {
        for (int left = elements - x.count(1); left > 0; left = elements - x.count(1)) {
            x.array(4, Math.min(left, 200));
        }
    }

    /** DECISIONS over the elements of one array, from its first place on, up to a number of them in all. */
    static void upToDecisions(DecisionArrays x, int a, int decisions) {
        for (int i = 0; x.count(2) < decisions; i++) {
            x.decide(a, i, 0, 0, 0);
        }
    }

    /** RULES of no weight. */
    static void upToRules(DecisionArrays x, int a, int rules) {
        while (x.count(3) < rules) {
            x.rule(0, a, 0, 0, 0);
        }
    }
}

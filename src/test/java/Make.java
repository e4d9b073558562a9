/** Arrays with their values, as tests want them. */
final class Make {
    static int of(DecisionArrays x, int kind, long... values) {
        int a = x.array(kind, values.length);
        for (int i = 0; i < values.length; i++) {
            x.write(a, i, 0, 0, 0, kind, values[i]);
        }
        return a;
    }

    static int floats(DecisionArrays x, float... values) {
        int a = x.array(6, values.length);
        for (int i = 0; i < values.length; i++) {
            x.write(a, i, 0, 0, 0, 6, Float.floatToRawIntBits(values[i]));
        }
        return a;
    }

    static int doubles(DecisionArrays x, double... values) {
        int a = x.array(7, values.length);
        for (int i = 0; i < values.length; i++) {
            x.write(a, i, 0, 0, 0, 7, Double.doubleToRawLongBits(values[i]));
        }
        return a;
    }

    // Each of these ends after as many calls as are needed, whatever the calls answer.

    /** Empty arrays, up to a number of arrays in all. */
    static void upToArrays(DecisionArrays x, int arrays) {
        for (int more = arrays - x.count(0); more > 0; more--) {
            x.array(4, 0);
        }
    }

    /** Arrays as long as can be, up to a number of elements in all. */
    static void upToElements(DecisionArrays x, int elements) {
        for (int more = elements - x.count(1); more > 0; more -= 200) {
            x.array(4, Math.min(more, 200));
        }
    }

    /** DECISIONS over the elements of one array, from its first place on. */
    static void decisions(DecisionArrays x, int a, int decisions) {
        for (int i = 0; i < decisions; i++) {
            x.decide(a, i, 0, 0, 0);
        }
    }

    /** RULES of no weight. */
    static void rules(DecisionArrays x, int a, int rules) {
        for (int r = 0; r < rules; r++) {
            x.rule(0, a, 0, 0, 0);
        }
    }
}

/** Promises 9 to 15. */
public final class ElementsTest {
    private static final Check check = new Check();
    private static final long NO_FLOAT = 0x7FC00000L;
    private static final long NO_DOUBLE = 0x7FF8000000000000L;

    public static void main(String[] args) {
        read();
        path();
        widenedWholes();
        widenedFloats();
        write();
        bitsOfKinds();
        pinnedAndClasses();
        place();
        pin();
        column();
        code();
        widens();
        check.end();
    }

    private static void read() {
        check.promise("9 read");
        DecisionArrays x = new DecisionArrays();
        x.array(2, 2);
        x.write(0, 1, 0, 0, 0, 2, -128);
        check.fine(x, x.read(0, 1, 9, 9, 9, 2), -128);
        check.fine(x, x.read(0, 1, 0, 0, 0, 3), -128);
        check.fine(x, x.read(0, 1, 0, 0, 0, 4), -128);
        check.fine(x, x.read(0, 1, 0, 0, 0, 5), -128);
        check.fine(x, x.read(0, 1, 0, 0, 0, 6), Float.floatToIntBits(-128f));
        check.fine(x, x.read(0, 1, 0, 0, 0, 7), Double.doubleToLongBits(-128d));
        check.silent(x, x.read(0, 1, 0, 0, 0, 0), 0, 1);
        check.silent(x, x.read(0, 1, 0, 0, 0, 1), 0, 1);
        check.silent(x, x.read(0, 1, 0, 0, 0, 8), 0, 1);
        check.silent(x, x.read(0, 1, 0, 0, 0, 9), 0, 9);
        check.silent(x, x.read(0, 2, 0, 0, 0, -1), 0, 9);
        check.silent(x, x.read(1, 2, 0, 0, 0, -1), 0, 5);
        check.silent(x, x.read(-1, 0, 0, 0, 0, 2), 0, 5);
        check.silent(x, x.read(0, 2, 0, 0, 0, 0), 0, 2);
        check.silent(x, x.read(0, -1, 0, 0, 0, 2), 0, 2);
    }

    private static void path() {
        check.promise("9 read, its PATH");
        DecisionArrays x = new DecisionArrays();
        x.grid(3, 4, 2, 2, 2, 2);
        check.due(x.write(0, 1, 0, 1, 0, 3, 77), 0);
        check.fine(x, x.read(0, 1, 0, 1, 0, 3), 77);
        check.fine(x, x.read(0, 0, 1, 0, 1, 3), 0);
        check.silent(x, x.read(0, 1, 0, 1, 2, 3), 0, 2);
        check.silent(x, x.read(0, 1, 0, -1, 2, 3), 0, 2);
        check.silent(x, x.read(0, 1, 2, 1, 2, 3), 0, 2);
        int below = x.row(0, 1);
        x.setRow(below, 0, -1);
        check.silent(x, x.read(0, 1, 0, 1, 0, 3), 0, 3);
        check.silent(x, x.read(0, 1, 0, 9, 9, 3), 0, 3);
        check.silent(x, x.read(0, 1, 2, 9, 9, 3), 0, 2);
        check.silent(x, x.read(0, 2, 0, 0, 0, 3), 0, 2);
        check.silent(x, x.read(0, 1, 0, 0, 0, 0), 0, 3);
        check.silent(x, x.read(0, 1, 0, 0, 0, 9), 0, 9);
        x.setRow(0, 1, -1);
        check.silent(x, x.read(0, 1, 9, 9, 9, 3), 0, 3);
    }

    private static void widenedWholes() {
        check.promise("9 read, wholes as floats and doubles");
        DecisionArrays x = new DecisionArrays();
        x.array(5, 1);
        for (int bit = 0; bit < 64; bit++) {
            for (long more = -3; more <= 3; more++) {
                long[] wholes = {(1L << bit) + more, -(1L << bit) + more, (3L << bit) + more,
                    (1L << bit) + (1L << bit >> 24) + more, (1L << bit) + (3L << bit >> 25) + more,
                    (1L << bit) + (1L << bit >> 53) + more, (1L << bit) + (3L << bit >> 54) + more};
                for (long whole : wholes) {
                    x.write(0, 0, 0, 0, 0, 5, whole);
                    check.due(x.read(0, 0, 0, 0, 0, 6), Float.floatToIntBits((float) whole));
                    check.due(x.read(0, 0, 0, 0, 0, 7), Double.doubleToLongBits((double) whole));
                }
            }
        }
    }

    private static void widenedFloats() {
        check.promise("9 read, floats as doubles");
        DecisionArrays x = new DecisionArrays();
        x.array(6, 1);
        int[] ends = {0, 1, 2, 3, 0x3FFFFF, 0x400000, 0x7FFFFF, 0x800000, 0x800001, 0x3F800000, 0x7F7FFFFF, 0x7F800000,
            0x7F800001, 0x7FC00000, 0x7FFFFFFF};
        for (int end : ends) {
            for (int bits : new int[] {end, end | 0x80000000}) {
                check.due(x.write(0, 0, 0, 0, 0, 6, bits), 0);
                float value = Float.intBitsToFloat(bits);
                check.fine(x, x.read(0, 0, 0, 0, 0, 6), Float.floatToIntBits(value));
                check.fine(x, x.read(0, 0, 0, 0, 0, 7), Double.doubleToLongBits((double) value));
            }
        }
    }

    private static void write() {
        check.promise("10 write");
        DecisionArrays x = new DecisionArrays();
        x.array(7, 3);
        x.rows(0, 2);
        x.setRow(1, 0, 0);
        check.fine(x, x.write(0, 0, 0, 0, 0, 1, 65535), 0);
        check.due(x.read(0, 0, 0, 0, 0, 7), Double.doubleToLongBits(65535d));
        check.fine(x, x.write(1, 0, 1, 0, 0, 6, Float.floatToIntBits(0.1f)), 0);
        check.due(x.read(0, 1, 0, 0, 0, 7), Double.doubleToLongBits(0.1f));
        check.fine(x, x.write(0, 2, 0, 0, 0, 6, 0x7F800001L), 0);
        check.due(x.read(0, 2, 0, 0, 0, 7), NO_DOUBLE);
        check.fine(x, x.write(0, 2, 0, 0, 0, 7, -1), 0);
        check.due(x.read(0, 2, 0, 0, 0, 7), NO_DOUBLE);
        check.refused(x, x.write(2, 9, 0, 0, 0, 9, 0), 5);
        check.refused(x, x.write(0, 9, 0, 0, 0, 9, 0), 9);
        check.refused(x, x.write(0, 9, 0, 0, 0, 0, 2), 9);
        check.refused(x, x.write(0, 9, 0, 0, 0, 0, 1), 2);
        check.refused(x, x.write(1, 1, 9, 0, 0, 0, 1), 3);
        check.refused(x, x.write(1, 2, 0, 0, 0, 0, 1), 2);
        check.refused(x, x.write(0, 0, 0, 0, 0, 0, 1), 1);
        check.refused(x, x.write(0, 0, 0, 0, 0, 8, 1), 1);
        check.due(x.read(0, 0, 0, 0, 0, 7), Double.doubleToLongBits(65535d));
        x.array(6, 1);
        check.refused(x, x.write(2, 0, 0, 0, 0, 7, 0), 1);
        check.fine(x, x.write(2, 0, 0, 0, 0, 6, 0xFFFFFFFFFFC00001L), 0);
        check.due(x.read(2, 0, 0, 0, 0, 6), NO_FLOAT);
    }

    private static void bitsOfKinds() {
        check.promise("10 write, BITS of kinds");
        DecisionArrays x = new DecisionArrays();
        long[][] ends = {{0, 1}, {0, 65535}, {-128, 127}, {-32768, 32767}, {Integer.MIN_VALUE, Integer.MAX_VALUE},
            {Long.MIN_VALUE, Long.MAX_VALUE}, {Integer.MIN_VALUE, 0x7F800000L}, {Long.MIN_VALUE, 0x7FF0000000000000L},
            {0, 1000}};
        for (int kind = 0; kind <= 8; kind++) {
            x.array(kind, 1);
            for (long end : ends[kind]) {
                check.fine(x, x.write(kind, 0, 0, 0, 0, kind, end), 0);
                check.fine(x, x.read(kind, 0, 0, 0, 0, kind), end);
            }
            if (kind != 5 && kind != 7) {
                long low = kind == 6 ? Integer.MIN_VALUE : ends[kind][0];
                long high = kind == 6 ? Integer.MAX_VALUE : ends[kind][1];
                check.refused(x, x.write(kind, 0, 0, 0, 0, kind, low - 1), 9);
                check.refused(x, x.write(kind, 0, 0, 0, 0, kind, high + 1), 9);
                check.refused(x, x.write(kind, 0, 0, 0, 0, kind, Long.MAX_VALUE), 9);
                check.due(x.read(kind, 0, 0, 0, 0, kind), ends[kind][1]);
            }
        }
    }

    private static void pinnedAndClasses() {
        check.promise("10 write, PINNED and CLASSES");
        DecisionArrays x = new DecisionArrays();
        x.things(3, 2);
        check.fine(x, x.write(0, 0, 0, 0, 0, 8, 3), 0);
        check.fine(x, x.write(0, 0, 0, 0, 0, 8, 997), 0);
        check.refused(x, x.write(0, 0, 0, 0, 0, 8, 998), 7);
        check.refused(x, x.write(0, 0, 0, 0, 0, 8, 7), 7);
        check.fine(x, x.write(0, 1, 0, 0, 0, 8, 0), 0);
        x.pin(0, 0, 0, 0, 0, true);
        check.refused(x, x.write(0, 0, 0, 0, 0, 8, 998), 6);
        check.refused(x, x.write(0, 0, 0, 0, 0, 8, 997), 6);
        check.refused(x, x.write(0, 0, 0, 0, 0, 4, 3), 1);
        check.due(x.read(0, 0, 0, 0, 0, 8), 997);
        x.array(8, 1);
        for (int thing = 0; thing <= 1000; thing += 125) {
            check.fine(x, x.write(1, 0, 0, 0, 0, 8, thing), 0);
        }
    }

    private static void place() {
        check.promise("11 place");
        DecisionArrays x = new DecisionArrays();
        x.array(0, 200);
        x.rows(0, 2);
        x.setRow(1, 1, 0);
        check.fine(x, x.place(0, 199, 7, 7, 7), 199);
        check.fine(x, x.place(1, 1, 5, 7, 7), 5);
        x.array(0, 2);
        x.setRow(1, 1, 2);
        check.fine(x, x.place(1, 1, 1, 7, 7), 2001);
        check.refused(x, x.place(1, 1, 2, 0, 0), 2);
        check.refused(x, x.place(1, 0, 2, 0, 0), 3);
        check.refused(x, x.place(1, 2, 2, 0, 0), 2);
        check.refused(x, x.place(3, 0, 0, 0, 0), 5);
        check.refused(x, x.place(-1, 0, 0, 0, 0), 5);
    }

    private static void pin() {
        check.promise("12 pin");
        DecisionArrays x = new DecisionArrays();
        x.array(4, 3);
        x.rows(0, 2);
        x.setRow(1, 0, 0);
        check.fine(x, x.pin(1, 0, 1, 0, 0, true), 0);
        check.fine(x, x.pin(0, 1, 0, 0, 0, true), 1);
        check.refused(x, x.write(0, 1, 0, 0, 0, 4, 5), 6);
        check.fine(x, x.write(0, 0, 0, 0, 0, 4, 5), 0);
        check.fine(x, x.pin(0, 1, 0, 0, 0, false), 1);
        check.fine(x, x.pin(0, 1, 0, 0, 0, false), 0);
        check.fine(x, x.write(0, 1, 0, 0, 0, 4, 5), 0);
        check.refused(x, x.pin(2, 0, 0, 0, 0, true), 5);
        check.refused(x, x.pin(0, 3, 0, 0, 0, true), 2);
        check.refused(x, x.pin(1, 1, 0, 0, 0, true), 3);
        check.due(x.about(0, 5), 0);
    }

    private static void column() {
        check.promise("13 column");
        DecisionArrays x = new DecisionArrays();
        x.array(4, 2);
        x.array(5, 3);
        x.rows(0, 4);
        x.array(4, 0);
        x.array(4, 2);
        int[] ints = {0, 1, 4000, 4001};
        for (int n = 0; n < ints.length; n++) {
            check.fine(x, x.column(4, n), ints[n]);
        }
        check.fine(x, x.column(4, 4), -2);
        check.fine(x, x.column(4, Integer.MAX_VALUE), -2);
        check.fine(x, x.column(5, 2), 1002);
        check.fine(x, x.column(5, 3), -2);
        check.fine(x, x.column(0, 0), -2);
        check.refused(x, x.column(4, -1), 9);
        check.refused(x, x.column(9, 0), 9);
        check.refused(x, x.column(-1, 0), 9);
        x.things(2, 1);
        x.array(8, 1);
        check.fine(x, x.column(8, 1), 6000);
    }

    private static void code() {
        check.promise("14 code");
        DecisionArrays x = new DecisionArrays();
        check.due(x.code(), 0);
        x.array(4, -1);
        check.due(x.code(), 4);
        check.due(x.code(), 4);
        check.due(x.score(), 0);
        check.due(x.code(), 4);
        x.widens(0, 0);
        check.due(x.code(), 0);
        x.hash(0);
        check.due(x.code(), 5);
        x.best();
        check.due(x.code(), 0);
        x.candidateOf(0, 0);
        check.due(x.code(), 9);
        x.mark();
        check.due(x.code(), 0);
        x.row(0, 0);
        check.due(x.code(), 5);
        x.back();
        check.due(x.code(), 0);
    }

    private static void widens() {
        check.promise("15 widens");
        DecisionArrays x = new DecisionArrays();
        String[] to = {"0", "14567", "234567", "34567", "4567", "567", "67", "7", "8"};
        for (int from = 0; from <= 8; from++) {
            for (int kind = 0; kind <= 8; kind++) {
                check.fine(x, x.widens(from, kind), to[from].indexOf('0' + kind) >= 0 ? 1 : 0);
            }
        }
        check.refused(x, x.widens(9, 0), 9);
        check.refused(x, x.widens(0, 9), 9);
        check.refused(x, x.widens(-1, -1), 9);
    }
}

/** Promises 1 to 23: each sentence with a bound, at it, one below and one above. */
public final class BoundsTest {
    private static final Check check = new Check();

    public static void main(String[] args) {
        newObject();
        rowsOfDepths();
        gridArrays();
        gridElements();
        gridEmptyLevels();
        gridUnusedLengths();
        gridNumbers();
        aboutNullsAndPins();
        rowEnds();
        setRowEnds();
        setRowAlike();
        placeNumbers();
        pinAndUnpin();
        columnOrder();
        columnEnds();
        fillRanges();
        fillBesidePins();
        moveRanges();
        moveAtOnce();
        moveBesidePins();
        moveClasses();
        moveRows();
        copyLengths();
        copyRows();
        deepNumbers();
        deepOfEachDepth();
        deepAgain();
        deepFourAtTheEnd();
        sortRanges();
        sortChanges();
        searchEnds();
        searchHalving();
        sameEdges();
        hashEdges();
        throughAllDepths();
        check.end();
    }

    private static void holds(DecisionArrays x, int a, long... values) {
        int kind = x.about(a, 0);
        check.due(x.about(a, 2), values.length);
        for (int i = 0; i < values.length; i++) {
            check.due(x.read(a, i, 0, 0, 0, kind), values[i]);
        }
    }

    private static void holdsRows(DecisionArrays x, int a, int... rows) {
        check.due(x.about(a, 2), rows.length);
        for (int i = 0; i < rows.length; i++) {
            check.fine(x, x.row(a, i), rows[i]);
        }
    }

    private static void newObject() {
        check.promise("1 no arrays, DECISIONS, RULES, MARKS; code() is 0");
        DecisionArrays x = new DecisionArrays();
        check.due(x.code(), 0);
        check.due(x.score(), 0);
        check.due(x.code(), 0);
        long[] counts = {0, 0, 0, 0, 0, 1};
        for (int what = 0; what <= 5; what++) {
            check.fine(x, x.count(what), counts[what]);
        }
        check.fine(x, x.column(4, 0), -2);
        check.fine(x, x.best(), 1);
        check.refused(x, x.back(), 9);
        check.refused(x, x.deep(0), 5);
        check.refused(x, x.candidate(0, 0), 9);
        check.silent(x, x.amount(0), 0, 9);
        check.silent(x, x.read(0, 0, 0, 0, 0, 0), 0, 5);
        check.fine(x, x.array(0, 0), 0);
        check.fine(x, x.mark(), 1);
        check.fine(x, x.rule(0, 0, 0, 0, 0), 0);
        check.refused(x, x.decide(0, 0, 0, 0, 0), 2);
    }

    private static void rowsOfDepths() {
        check.promise("4 rows: KIND, CLASS as of a, DEPTH one more");
        for (int kind = 0; kind <= 8; kind++) {
            DecisionArrays x = new DecisionArrays();
            x.array(kind, 1);
            for (int depth = 2; depth <= 4; depth++) {
                check.fine(x, x.rows(depth - 2, depth), depth - 1);
                check.due(x.about(depth - 1, 0), kind);
                check.due(x.about(depth - 1, 1), depth);
                check.due(x.about(depth - 1, 2), depth);
                check.due(x.about(depth - 1, 4), depth);
            }
            check.refused(x, x.rows(3, 0), 9);
            check.refused(x, x.rows(4, 0), 5);
            check.due(x.count(0), 4);
        }
    }

    private static void gridMakes(int arrays, int elements, int depth, int... n) {
        DecisionArrays x = new DecisionArrays();
        boolean fits = arrays <= 60 && elements <= 4000;
        check.silent(x, x.grid(4, depth, n[0], n[1], n[2], n[3]), fits ? 0 : -8, fits ? 0 : 8);
        check.due(x.count(0), fits ? arrays : 0);
        check.due(x.count(1), fits ? elements : 0);
    }

    private static void gridArrays() {
        check.promise("5 grid: 60 arrays, and one more");
        gridMakes(60, 59, 2, 59, 0, 0, 0);
        gridMakes(61, 60, 2, 60, 0, 0, 0);
        gridMakes(60, 59, 3, 1, 58, 0, 0);
        gridMakes(61, 60, 3, 1, 59, 0, 0);
        gridMakes(60, 59, 4, 1, 1, 57, 0);
        gridMakes(61, 60, 4, 1, 1, 58, 0);
        gridMakes(57, 56 + 49, 3, 7, 7, 1, 0);
        gridMakes(65, 0, 3, 8, 7, 1, 0);
        gridMakes(201, 0, 2, 200, 0, 0, 0);
    }

    private static void gridElements() {
        check.promise("5 grid: 4000 elements, and one ROW too many");
        gridMakes(21, 4000, 2, 20, 199, 0, 0);
        gridMakes(21, 4020, 2, 20, 200, 0, 0);
        gridMakes(1, 200, 1, 200, 200, 200, 200);
        gridMakes(2 + 19, 1 + 19 + 19 * 200, 3, 1, 19, 200, 0);
        gridMakes(2 + 20, 1 + 20 + 20 * 199, 3, 1, 20, 199, 0);
        gridMakes(2 + 20, 1 + 20 + 20 * 198, 3, 1, 20, 198, 0);
        gridMakes(1000000, 0, 4, 200, 200, 200, 200);
        for (int before = 0; before <= 1; before++) {
            DecisionArrays x = new DecisionArrays();
            x.array(4, before);
            check.due(x.grid(4, 2, 20, 199, 0, 0), before == 0 ? 1 : -8);
            check.due(x.count(1), before == 0 ? 4000 : 1);
        }
    }

    private static void gridEmptyLevels() {
        check.promise("5 grid: lengths of 0");
        gridMakes(1, 0, 1, 0, 9, 9, 9);
        gridMakes(1, 0, 4, 0, 200, 200, 200);
        gridMakes(3, 2, 4, 2, 0, 200, 200);
        gridMakes(9, 8, 4, 2, 3, 0, 200);
        gridMakes(1 + 2 + 6 + 12, 2 + 6 + 12, 4, 2, 3, 2, 0);
    }

    private static void gridUnusedLengths() {
        check.promise("5 grid: lengths n0, n1, .. as many as it is deep");
        for (int any : new int[] {Integer.MIN_VALUE, -1, 201, Integer.MAX_VALUE}) {
            DecisionArrays x = new DecisionArrays();
            check.fine(x, x.grid(7, 1, 2, any, any, any), 0);
            check.fine(x, x.grid(7, 2, 2, 1, any, any), 1);
            check.fine(x, x.grid(7, 3, 1, 2, 1, any), 4);
            check.due(x.grid(7, 4, 1, 1, 1, any), any < 0 ? -4 : -8);
            check.due(x.grid(7, 3, 1, 1, any, 1), any < 0 ? -4 : -8);
            check.due(x.grid(7, 2, 1, any, 1, 1), any < 0 ? -4 : -8);
            check.due(x.grid(7, 1, any, 1, 1, 1), any < 0 ? -4 : -8);
            check.due(x.count(0), 8);
        }
    }

    private static void gridNumbers() {
        check.promise("5 grid: its ROWS by places, each with all below it ahead of the next");
        DecisionArrays x = new DecisionArrays();
        x.array(0, 1);
        check.fine(x, x.grid(0, 3, 2, 3, 1, 0), 1);
        holdsRows(x, 1, 2, 6);
        holdsRows(x, 2, 3, 4, 5);
        holdsRows(x, 6, 7, 8, 9);
        check.due(x.count(0), 10);
        check.due(x.place(1, 1, 2, 0, 0), 9000);
        check.due(x.about(9, 1), 1);
        check.due(x.about(9, 2), 1);
    }

    private static void aboutNullsAndPins() {
        check.promise("6 about: null ROWS (0 of DEPTH 1), PINNED elements");
        DecisionArrays x = new DecisionArrays();
        x.array(4, 3);
        x.rows(0, 3);
        for (int i = 0; i < 3; i++) {
            check.fine(x, x.about(1, 4), 3 - i);
            check.fine(x, x.about(0, 5), i);
            x.setRow(1, i, 0);
            x.pin(0, i, 0, 0, 0, true);
        }
        check.fine(x, x.about(1, 4), 0);
        check.fine(x, x.about(0, 5), 3);
        check.fine(x, x.about(0, 4), 0);
        x.pin(0, 1, 0, 0, 0, false);
        check.fine(x, x.about(0, 5), 2);
        x.array(4, 0);
        x.rows(0, 0);
        for (int a = 2; a <= 3; a++) {
            check.fine(x, x.about(a, 2), 0);
            check.fine(x, x.about(a, 4), 0);
            check.fine(x, x.about(a, 5), 0);
        }
        int longs = Make.of(x, 5, -1, -1);
        check.fine(x, x.about(longs, 4), 0);
        check.refused(x, x.about(0, Integer.MIN_VALUE), 9);
        check.refused(x, x.about(0, Integer.MAX_VALUE), 9);
    }

    private static void rowEnds() {
        check.promise("7 row: its number, -1 null; the ends of an array");
        DecisionArrays x = new DecisionArrays();
        x.array(4, 3);
        x.rows(0, 200);
        x.setRow(1, 0, 0);
        x.setRow(1, 199, 0);
        check.fine(x, x.row(1, 0), 0);
        check.fine(x, x.row(1, 198), -1);
        check.fine(x, x.row(1, 199), 0);
        check.silent(x, x.row(1, 200), -1, 2);
        check.silent(x, x.row(1, -1), -1, 2);
        check.silent(x, x.row(1, Integer.MAX_VALUE), -1, 2);
        check.silent(x, x.row(1, Integer.MIN_VALUE), -1, 2);
        check.silent(x, x.row(2, 0), -1, 5);
        x.rows(0, 0);
        check.silent(x, x.row(2, 0), -1, 2);
    }

    private static void setRowEnds() {
        check.promise("8 setRow: the ends of an array, the first and last array");
        DecisionArrays x = new DecisionArrays();
        x.array(4, 1);
        x.rows(0, 3);
        x.array(4, 1);
        check.fine(x, x.setRow(1, 0, 0), 0);
        check.fine(x, x.setRow(1, 2, 2), 0);
        holdsRows(x, 1, 0, -1, 2);
        check.refused(x, x.setRow(1, 3, 2), 2);
        check.refused(x, x.setRow(1, -1, 2), 2);
        check.refused(x, x.setRow(1, 0, 3), 5);
        check.refused(x, x.setRow(1, 0, -2), 5);
        check.refused(x, x.setRow(1, 0, Integer.MIN_VALUE), 5);
        check.refused(x, x.setRow(3, 0, 0), 5);
        check.refused(x, x.setRow(-1, 0, 0), 5);
        holdsRows(x, 1, 0, -1, 2);
        check.fine(x, x.setRow(1, 2, -1), 0);
        check.fine(x, x.setRow(1, 2, -1), 0);
        check.fine(x, x.setRow(1, 1, 0), 0);
        holdsRows(x, 1, 0, 0, -1);
    }

    /** Every array of every KIND, DEPTH and CLASS as a ROW of each one above. */
    private static void setRowAlike() {
        check.promise("2 ROWS: of the same KIND, CLASS and a DEPTH one less");
        DecisionArrays x = new DecisionArrays();
        x.array(4, 1);
        x.array(5, 1);
        x.array(8, 1);
        x.things(0, 1);
        x.things(6, 1);
        for (int a = 0; a < 10; a++) {
            x.rows(a, 1);
        }
        for (int a = 5; a < 15; a++) {
            for (int r = 0; r < 15; r++) {
                check.silent(x, x.setRow(a, 0, r), r == a - 5 ? 0 : -1, r == a - 5 ? 0 : 1);
            }
        }
        for (int r = 0; r < 15; r++) {
            check.refused(x, x.setRow(0, 0, r), 1);
        }
    }

    private static void placeNumbers() {
        check.promise("11 place: the array times 1000, and its place");
        DecisionArrays x = new DecisionArrays();
        x.array(4, 200);
        Make.upToArrays(x, 58);
        check.due(x.array(4, 200), 58);
        check.due(x.rows(0, 1), 59);
        x.setRow(59, 0, 58);
        check.fine(x, x.place(0, 0, 0, 0, 0), 0);
        check.fine(x, x.place(0, 199, 0, 0, 0), 199);
        check.fine(x, x.place(58, 0, 0, 0, 0), 58000);
        check.fine(x, x.place(59, 0, 199, 0, 0), 58199);
        check.refused(x, x.place(59, 0, 200, 0, 0), 2);
        check.refused(x, x.place(0, 200, 0, 0, 0), 2);
        check.refused(x, x.place(60, 0, 0, 0, 0), 5);
    }

    private static void pinAndUnpin() {
        check.promise("12 pin: 1 if it was, else 0");
        DecisionArrays x = new DecisionArrays();
        x.array(4, 200);
        for (int i : new int[] {0, 199}) {
            check.fine(x, x.pin(0, i, 0, 0, 0, false), 0);
            check.fine(x, x.pin(0, i, 0, 0, 0, true), 0);
            check.fine(x, x.pin(0, i, 0, 0, 0, true), 1);
            check.fine(x, x.pin(0, i, 0, 0, 0, false), 1);
            check.fine(x, x.pin(0, i, 0, 0, 0, false), 0);
        }
        check.refused(x, x.pin(0, 200, 0, 0, 0, true), 2);
        check.refused(x, x.pin(0, -1, 0, 0, 0, true), 2);
        check.due(x.about(0, 5), 0);
        x.array(4, 0);
        check.refused(x, x.pin(1, 0, 0, 0, 0, true), 2);
    }

    private static void columnOrder() {
        check.promise("13 column: by numbers, then places; only arrays of DEPTH 1");
        DecisionArrays x = new DecisionArrays();
        x.grid(3, 2, 2, 2, 0, 0);
        x.array(3, 0);
        x.array(4, 2);
        x.array(3, 1);
        x.setRow(0, 0, 2);
        int[] due = {1000, 1001, 2000, 2001, 5000};
        for (int n = 0; n < due.length; n++) {
            check.fine(x, x.column(3, n), due[n]);
        }
        check.fine(x, x.column(3, due.length), -2);
        check.fine(x, x.column(4, 0), 4000);
        check.fine(x, x.column(4, 1), 4001);
        check.fine(x, x.column(4, 2), -2);
        x.things(3, 1);
        x.array(8, 2);
        check.fine(x, x.column(8, 0), 6000);
        check.fine(x, x.column(8, 2), 7001);
        check.fine(x, x.column(8, 3), -2);
    }

    private static void columnEnds() {
        check.promise("13 column: the last of 4000, NONE is -2");
        DecisionArrays x = new DecisionArrays();
        Make.upToElements(x, 4000);
        check.fine(x, x.column(4, 0), 0);
        check.fine(x, x.column(4, 199), 199);
        check.fine(x, x.column(4, 200), 1000);
        check.fine(x, x.column(4, 3999), 19199);
        check.fine(x, x.column(4, 4000), -2);
        check.fine(x, x.column(4, Integer.MAX_VALUE), -2);
        check.refused(x, x.column(4, -1), 9);
        check.refused(x, x.column(4, Integer.MIN_VALUE), 9);
        for (int kind = 0; kind <= 8; kind++) {
            check.fine(x, x.column(kind, 0), kind == 4 ? 0 : -2);
        }
    }

    private static void fillRanges() {
        check.promise("16 fill: 0 up to the length, from not above to");
        for (int from = -1; from <= 4; from++) {
            for (int to = -1; to <= 4; to++) {
                DecisionArrays x = new DecisionArrays();
                int a = Make.of(x, 4, 1, 2, 3);
                boolean there = from >= 0 && from <= to && to <= 3;
                check.silent(x, x.fill(a, from, to, 4, 9), there ? to - from : -2, there ? 0 : 2);
                for (int i = 0; i < 3; i++) {
                    check.due(x.read(a, i, 0, 0, 0, 4), there && i >= from && i < to ? 9 : i + 1);
                }
            }
        }
        DecisionArrays x = new DecisionArrays();
        x.array(4, 0);
        x.array(4, 200);
        check.fine(x, x.fill(0, 0, 0, 4, 9), 0);
        check.refused(x, x.fill(0, 0, 1, 4, 9), 2);
        check.fine(x, x.fill(1, 0, 200, 4, 9), 200);
        check.due(x.read(1, 199, 0, 0, 0, 4), 9);
        check.refused(x, x.fill(1, 0, 201, 4, 8), 2);
        check.refused(x, x.fill(1, Integer.MIN_VALUE, Integer.MAX_VALUE, 4, 8), 2);
        check.refused(x, x.fill(1, Integer.MAX_VALUE, Integer.MIN_VALUE, 4, 8), 2);
    }

    private static void fillBesidePins() {
        check.promise("16 fill: 6 only where one of the places is PINNED");
        for (int from = 0; from <= 4; from++) {
            for (int to = from; to <= 4; to++) {
                DecisionArrays x = new DecisionArrays();
                int a = Make.of(x, 4, 1, 2, 3, 4);
                x.pin(a, 2, 0, 0, 0, true);
                boolean pinned = from <= 2 && to > 2;
                check.silent(x, x.fill(a, from, to, 4, 3), pinned ? -6 : to - from, pinned ? 6 : 0);
                check.due(x.read(a, 2, 0, 0, 0, 4), 3);
            }
        }
    }

    private static void moveRanges() {
        check.promise("17 move: 2, all places of both arrays; n at the ends");
        for (int i = -1; i <= 4; i++) {
            for (int k = -1; k <= 3; k++) {
                for (int n = 0; n <= 4; n++) {
                    DecisionArrays x = new DecisionArrays();
                    int a = Make.of(x, 4, 1, 2, 3);
                    int b = Make.of(x, 4, 7, 8);
                    boolean there = i >= 0 && i + n <= 3 && k >= 0 && k + n <= 2;
                    check.silent(x, x.move(a, i, b, k, n), there ? n : -2, there ? 0 : 2);
                    for (int p = 0; p < 2; p++) {
                        boolean came = there && p >= k && p < k + n;
                        check.due(x.read(b, p, 0, 0, 0, 4), came ? i + p - k + 1 : p + 7);
                    }
                }
            }
        }
        DecisionArrays x = new DecisionArrays();
        int a = x.array(4, 2);
        for (int many : new int[] {Integer.MAX_VALUE, Integer.MAX_VALUE - 1}) {
            check.refused(x, x.move(a, 1, a, 0, many), 2);
            check.refused(x, x.move(a, 0, a, 1, many), 2);
            check.refused(x, x.move(a, many, a, 0, many), 2);
            check.refused(x, x.move(a, 0, a, many, 1), 2);
            check.refused(x, x.move(a, -many, a, 0, many), 2);
        }
        check.refused(x, x.move(a, 0, a, 0, -1), 4);
        check.refused(x, x.move(a, 0, a, 0, Integer.MIN_VALUE), 4);
    }

    private static void moveAtOnce() {
        check.promise("17 move: as if all at once");
        for (int i = 0; i <= 5; i++) {
            for (int k = 0; k <= 5; k++) {
                int n = 5 - Math.max(i, k);
                DecisionArrays x = new DecisionArrays();
                int a = Make.of(x, 4, 1, 2, 3, 4, 5);
                check.fine(x, x.move(a, i, a, k, n), n);
                for (int p = 0; p < 5; p++) {
                    check.due(x.read(a, p, 0, 0, 0, 4), p >= k && p < k + n ? i + p - k + 1 : p + 1);
                }
            }
        }
    }

    private static void moveBesidePins() {
        check.promise("17 move: 6, one of the n places of array b");
        for (int k = 0; k <= 4; k++) {
            for (int n = 0; n <= 4 - k; n++) {
                DecisionArrays x = new DecisionArrays();
                int a = Make.of(x, 4, 1, 2, 3, 4);
                int b = Make.of(x, 4, 5, 6, 7, 8);
                for (int i = 0; i < 4; i++) {
                    x.pin(a, i, 0, 0, 0, true);
                }
                x.pin(b, 2, 0, 0, 0, true);
                boolean pinned = k <= 2 && k + n > 2;
                check.silent(x, x.move(a, 0, b, k, n), pinned ? -6 : n, pinned ? 6 : 0);
                check.due(x.read(b, 2, 0, 0, 0, 4), 7);
                check.due(x.about(b, 5), 1);
            }
        }
    }

    private static void moveClasses() {
        check.promise("17 move: 7, the first THING that b does not take: those before it have come");
        for (int other = 0; other <= 4; other++) {
            DecisionArrays x = new DecisionArrays();
            x.things(3, 6);
            x.fill(0, 0, 6, 8, 10);
            x.array(8, 4);
            long[] things = {3, 0, 997, 17};
            for (int i = 0; i < 4; i++) {
                x.write(1, i, 0, 0, 0, 8, i == other ? 4 : things[i]);
            }
            check.silent(x, x.move(1, 0, 0, 1, 4), other < 4 ? -7 : 4, other < 4 ? 7 : 0);
            for (int i = 0; i < 6; i++) {
                boolean came = i >= 1 && i < 5 && i - 1 < other;
                check.due(x.read(0, i, 0, 0, 0, 8), came ? things[i - 1] : 10);
            }
        }
        DecisionArrays x = new DecisionArrays();
        int from = x.things(2, 2);
        int to = x.things(3, 2);
        check.fine(x, x.move(from, 0, to, 0, 2), 2);
        x.write(from, 1, 0, 0, 0, 8, 2);
        check.refused(x, x.move(from, 0, to, 0, 2), 7);
        check.fine(x, x.move(from, 0, to, 0, 1), 1);
        check.fine(x, x.move(from, 0, x.array(8, 2), 0, 2), 2);
    }

    private static void moveRows() {
        check.promise("17 move: any DEPTH, ROWS likewise");
        DecisionArrays x = new DecisionArrays();
        for (int depth = 1; depth <= 3; depth++) {
            int below = depth == 1 ? x.things(1, 1) : x.count(0) - 2;
            int a = x.rows(below, 3);
            int b = x.rows(below, 3);
            x.setRow(a, 0, below);
            x.setRow(a, 2, below);
            x.setRow(b, 1, below);
            check.fine(x, x.move(a, 0, b, 0, 3), 3);
            holdsRows(x, b, below, -1, below);
            check.fine(x, x.move(b, 0, b, 1, 2), 2);
            holdsRows(x, b, below, below, -1);
            check.fine(x, x.move(b, 1, b, 0, 2), 2);
            holdsRows(x, b, below, -1, -1);
            check.refused(x, x.move(a, 0, below, 0, 0), 1);
            check.refused(x, x.move(below, 0, a, 0, 0), 1);
            check.refused(x, x.move(a, 1, b, 0, 3), 2);
        }
    }

    private static void copyLengths() {
        check.promise("18 copy: m long, with a's first elements, others as at first");
        for (int m = 0; m <= 5; m++) {
            DecisionArrays x = new DecisionArrays();
            Make.of(x, 4, 1, 2, 3);
            x.pin(0, 0, 0, 0, 0, true);
            check.fine(x, x.copy(0, m), 1);
            check.due(x.about(1, 2), m);
            check.due(x.about(1, 5), 0);
            for (int i = 0; i < m; i++) {
                check.due(x.read(1, i, 0, 0, 0, 4), i < 3 ? i + 1 : 0);
            }
            holds(x, 0, 1, 2, 3);
        }
        DecisionArrays x = new DecisionArrays();
        x.array(4, 0);
        check.fine(x, x.copy(0, 0), 1);
        check.fine(x, x.copy(0, 200), 2);
        check.refused(x, x.copy(0, 201), 8);
        check.refused(x, x.copy(0, -1), 4);
    }

    private static void copyRows() {
        check.promise("18 copy: of any DEPTH, the same ROWS");
        DecisionArrays x = new DecisionArrays();
        x.grid(4, 4, 2, 1, 1, 1);
        for (int a : new int[] {0, 1, 2}) {
            int n = x.about(a, 2);
            int made = x.copy(a, n + 1);
            check.due(x.code(), 0);
            check.due(x.about(made, 1), x.about(a, 1));
            for (int i = 0; i < n; i++) {
                check.due(x.row(made, i), x.row(a, i));
            }
            check.fine(x, x.row(made, n), -1);
            check.due(x.about(made, 4), 1);
        }
        check.due(x.count(0), 10);
    }

    private static void deepNumbers() {
        check.promise("19 deep: new ROWS, one for each place, null ones null, numbered as in grid()");
        DecisionArrays x = new DecisionArrays();
        int a = Make.of(x, 4, 7);
        int rows = x.rows(a, 3);
        int deep = x.rows(rows, 2);
        x.setRow(rows, 0, a);
        x.setRow(rows, 2, a);
        x.setRow(deep, 0, rows);
        x.setRow(deep, 1, rows);
        check.fine(x, x.deep(deep), 3);
        holdsRows(x, 3, 4, 7);
        holdsRows(x, 4, 5, -1, 6);
        holdsRows(x, 7, 8, -1, 9);
        for (int made : new int[] {5, 6, 8, 9}) {
            holds(x, made, 7);
        }
        check.due(x.count(0), 10);
        check.fine(x, x.deep(a), 10);
        holds(x, 10, 7);
        check.fine(x, x.deep(x.array(4, 0)), 12);
        check.due(x.about(12, 2), 0);
        check.fine(x, x.deep(x.rows(a, 2)), 14);
        holdsRows(x, 14, -1, -1);
    }

    private static void deepOfEachDepth() {
        check.promise("19 deep: new ROWS throughout, of DEPTH 1 .. 4");
        for (int depth = 1; depth <= 4; depth++) {
            DecisionArrays x = new DecisionArrays();
            x.grid(4, depth, 2, 2, 2, 2);
            int arrays = x.count(0);
            int elements = x.count(1);
            x.write(0, 1, 1, 1, 1, 4, 77);
            check.fine(x, x.deep(0), arrays);
            check.due(x.count(0), 2 * arrays);
            check.due(x.count(1), 2 * elements);
            check.due(x.same(0, arrays), 1);
            check.fine(x, x.place(arrays, 1, 1, 1, 1), (2 * arrays - 1) * 1000 + 1);
            check.due(x.read(arrays, 1, 1, 1, 1, 4), 77);
            check.fine(x, x.write(arrays, 1, 1, 1, 1, 4, 78), 0);
            check.due(x.read(0, 1, 1, 1, 1, 4), 77);
            check.due(x.same(0, arrays), 0);
        }
    }

    private static void deepAgain() {
        check.promise("19 deep: 8, each time by what is there");
        DecisionArrays x = new DecisionArrays();
        x.array(4, 1);
        for (int a = 1; a < 60; a++) {
            check.fine(x, x.deep(0), a);
        }
        check.refused(x, x.deep(0), 8);
        DecisionArrays y = new DecisionArrays();
        y.array(4, 200);
        for (int a = 1; a < 20; a++) {
            check.fine(y, y.deep(0), a);
        }
        check.refused(y, y.deep(0), 8);
        check.fine(y, y.array(4, 0), 20);
        check.fine(y, y.deep(20), 21);
        check.due(y.count(1), 4000);
    }

    /** Of DEPTH 4 the arrays below the third level count too: 31 arrays, or fewer where ROWS are null. */
    private static void deepFourAtTheEnd() {
        check.promise("19 deep: 8, of DEPTH 4, to the last array and element");
        for (int rows = 27; rows >= 25; rows--) {
            DecisionArrays x = new DecisionArrays();
            x.grid(4, 4, 1, 1, 28, 1);
            for (int i = rows; i < 28; i++) {
                x.setRow(2, i, -1);
            }
            boolean fits = 31 + 3 + rows <= 60;
            check.due(x.deep(0), fits ? 31 : -8);
            check.due(x.count(0), fits ? 34 + rows : 31);
        }
        for (int last = 1; last <= 3; last++) {
            DecisionArrays x = new DecisionArrays();
            x.grid(4, 4, 1, 1, 10, 198);
            x.array(4, last);
            int elements = 12 + 1980;
            boolean fits = elements * 2 + 14 + last <= 4000;
            x.array(4, 14);
            check.due(x.deep(0), fits ? 15 : -8);
            check.due(x.count(1), (fits ? 2 : 1) * elements + 14 + last);
        }
    }

    private static void sortRanges() {
        check.promise("20 sort: places from .. to - 1, and PINS beside them");
        for (int from = -1; from <= 5; from++) {
            for (int to = -1; to <= 5; to++) {
                DecisionArrays x = new DecisionArrays();
                int a = Make.of(x, 4, 4, 3, 2, 1);
                boolean there = from >= 0 && from <= to && to <= 4;
                int changed = there ? (to - from) - (to - from) % 2 : -2;
                check.silent(x, x.sort(a, from, to), changed, there ? 0 : 2);
                for (int i = 0; i < 4; i++) {
                    boolean moved = there && i >= from && i < to;
                    check.due(x.read(a, i, 0, 0, 0, 4), moved ? 4 - (from + to - 1 - i) : 4 - i);
                }
                int b = Make.of(x, 4, 4, 3, 2, 1);
                x.pin(b, 1, 0, 0, 0, true);
                boolean pinned = there && from <= 1 && to > 1;
                check.due(x.sort(b, from, to), pinned ? -6 : changed);
            }
        }
    }

    private static void sortChanges() {
        check.promise("20 sort: how many places have other BITS than before");
        DecisionArrays x = new DecisionArrays();
        check.fine(x, x.sort(Make.of(x, 4), 0, 0), 0);
        check.fine(x, x.sort(Make.of(x, 4, 5), 0, 1), 0);
        check.fine(x, x.sort(Make.of(x, 4, 5, 5), 0, 2), 0);
        check.fine(x, x.sort(Make.of(x, 4, 5, 4), 0, 2), 2);
        check.fine(x, x.sort(Make.of(x, 4, 2, 1, 1), 0, 3), 2);
        check.fine(x, x.sort(Make.doubles(x, 0.0, -0.0), 0, 2), 2);
        check.fine(x, x.sort(Make.floats(x, Float.NaN, 0f, -0f), 0, 3), 2);
        check.fine(x, x.sort(Make.doubles(x, Double.NaN, Double.NaN), 0, 2), 0);
        int all = x.array(2, 200);
        for (int i = 0; i < 200; i++) {
            x.write(all, i, 0, 0, 0, 2, 99 - i);
        }
        check.fine(x, x.sort(all, 0, 200), 200);
        check.due(x.read(all, 0, 0, 0, 0, 2), -100);
        check.due(x.read(all, 199, 0, 0, 0, 2), 99);
    }

    private static void searchEnds() {
        check.promise("21 search: else -100 less where it would be");
        for (int n = 0; n <= 6; n++) {
            DecisionArrays x = new DecisionArrays();
            int a = x.array(4, n);
            for (int i = 0; i < n; i++) {
                x.write(a, i, 0, 0, 0, 4, 10 * i);
            }
            for (int i = 0; i < n; i++) {
                check.fine(x, x.search(a, 10 * i), i);
                check.fine(x, x.search(a, 10 * i + 1), -100 - i - 1);
                check.fine(x, x.search(a, 10 * i - 1), -100 - i);
            }
            check.fine(x, x.search(a, Integer.MAX_VALUE), -100 - n);
            check.fine(x, x.search(a, Integer.MIN_VALUE), -100);
        }
        DecisionArrays x = new DecisionArrays();
        int a = x.array(0, 200);
        check.fine(x, x.search(a, 1), -300);
        x.fill(a, 0, 200, 0, 1);
        check.fine(x, x.search(a, 0), -100);
        x.fill(a, 0, 199, 0, 0);
        check.fine(x, x.search(a, 1), 199);
    }

    private static void searchHalving() {
        check.promise("21 search: the middle (low + high) / 2, the first middle that is alike");
        int[] firstMiddle = {0, 0, 1, 1, 2, 2, 3};
        for (int n = 1; n <= 7; n++) {
            DecisionArrays x = new DecisionArrays();
            check.fine(x, x.search(x.array(5, n), 0), firstMiddle[n - 1]);
        }
        DecisionArrays x = new DecisionArrays();
        check.fine(x, x.search(x.array(5, 200), 0), 99);
        int mixed = Make.of(x, 4, 9, 1, 5, 1, 9);
        check.fine(x, x.search(mixed, 9), 4);
        check.fine(x, x.search(mixed, 1), -100);
        check.fine(x, x.search(mixed, 5), 2);
        check.fine(x, x.search(mixed, 7), -104);
        check.fine(x, x.search(mixed, 3), -100);
    }

    private static void sameEdges() {
        check.promise("22 same: KIND, DEPTH, lengths, BITS, nulls (not CLASSES)");
        DecisionArrays x = new DecisionArrays();
        for (int kind = 0; kind <= 8; kind++) {
            x.array(kind, 0);
        }
        for (int a = 0; a <= 8; a++) {
            for (int b = 0; b <= 8; b++) {
                check.fine(x, x.same(a, b), a == b ? 1 : 0);
            }
        }
        DecisionArrays y = new DecisionArrays();
        check.fine(y, y.same(y.things(0, 3), y.things(6, 3)), 1);
        check.fine(y, y.same(y.rows(0, 3), y.rows(1, 3)), 1);
        check.fine(y, y.same(0, 2), 0);
        check.fine(y, y.same(y.rows(0, 2), 2), 0);
        y.setRow(2, 2, 0);
        check.fine(y, y.same(2, 3), 0);
        check.fine(y, y.same(3, 2), 0);
        y.setRow(3, 2, 1);
        check.fine(y, y.same(2, 3), 1);
        y.write(1, 2, 0, 0, 0, 8, 6);
        check.fine(y, y.same(2, 3), 0);
        y.write(0, 2, 0, 0, 0, 8, 7);
        check.fine(y, y.same(0, 1), 0);
        check.fine(y, y.same(Make.of(y, 4, 1, 2, 3), Make.of(y, 4, 1, 2)), 0);
        check.fine(y, y.same(Make.doubles(y, 0.0), Make.doubles(y, -0.0)), 0);
        check.fine(y, y.same(Make.doubles(y, Double.NaN), Make.of(y, 7, -1)), 1);
    }

    private static void hashEdges() {
        check.promise("23 hash: of 32 bits, wrapping; null 0");
        DecisionArrays x = new DecisionArrays();
        for (int kind = 0; kind <= 8; kind++) {
            check.fine(x, x.hash(x.array(kind, 0)), 1);
            check.fine(x, x.hash(x.array(kind, 1)), kind == 0 ? 31 + 1237 : 31);
        }
        check.fine(x, x.hash(x.array(4, 200)), java.util.Arrays.hashCode(new int[200]));
        check.fine(x, x.hash(x.rows(0, 0)), 1);
        check.fine(x, x.hash(x.rows(0, 2)), 961);
        check.fine(x, x.hash(Make.of(x, 4, Integer.MIN_VALUE, Integer.MAX_VALUE)),
            java.util.Arrays.hashCode(new int[] {Integer.MIN_VALUE, Integer.MAX_VALUE}));
        check.fine(x, x.hash(Make.of(x, 5, Long.MIN_VALUE, Long.MAX_VALUE, -1, 1L << 32)),
            java.util.Arrays.hashCode(new long[] {Long.MIN_VALUE, Long.MAX_VALUE, -1, 1L << 32}));
        check.fine(x, x.hash(Make.floats(x, -0f, Float.NaN, Float.MAX_VALUE)),
            java.util.Arrays.hashCode(new float[] {-0f, Float.NaN, Float.MAX_VALUE}));
        check.fine(x, x.hash(Make.doubles(x, -0.0, Double.NaN, Double.MIN_VALUE)),
            java.util.Arrays.hashCode(new double[] {-0.0, Double.NaN, Double.MIN_VALUE}));
        check.fine(x, x.hash(Make.of(x, 0, 1)), 31 + 1231);
        int ten = Make.of(x, 8, 10, 0);
        int rows = x.rows(ten, 3);
        x.setRow(rows, 1, ten);
        int one = (31 + 10) * 31;
        check.fine(x, x.hash(ten), one);
        check.fine(x, x.hash(rows), (31 * 31 + one) * 31);
        int deep = x.rows(rows, 1);
        x.setRow(deep, 0, rows);
        check.fine(x, x.hash(deep), 31 + (31 * 31 + one) * 31);
    }

    /** One element below three levels of ROWS, and a null at each level. */
    private static void throughAllDepths() {
        check.promise("22 same, 23 hash: all through");
        DecisionArrays x = new DecisionArrays();
        x.grid(5, 4, 2, 2, 2, 2);
        int twin = x.deep(0);
        long[][][][] values = new long[2][2][2][2];
        check.fine(x, x.hash(0), java.util.Arrays.deepHashCode(values));
        for (int i = 0; i < 16; i++) {
            x.write(0, i / 8, i / 4 % 2, i / 2 % 2, i % 2, 5, 1L << 4 * i);
            values[i / 8][i / 4 % 2][i / 2 % 2][i % 2] = 1L << 4 * i;
            check.fine(x, x.hash(0), java.util.Arrays.deepHashCode(values));
            check.fine(x, x.same(0, twin), 0);
            x.write(twin, i / 8, i / 4 % 2, i / 2 % 2, i % 2, 5, 1L << 4 * i);
            check.fine(x, x.same(0, twin), 1);
        }
        for (int level = 2; level >= 0; level--) {
            x.setRow(level, 1, -1);
            check.fine(x, x.same(0, twin), 0);
            check.fine(x, x.same(twin, 0), 0);
            x.setRow(twin + level, 1, -1);
            check.fine(x, x.same(0, twin), 1);
        }
        values[0][0][1] = null;
        values[0][1] = null;
        values[1] = null;
        check.fine(x, x.hash(0), java.util.Arrays.deepHashCode(values));
    }
}

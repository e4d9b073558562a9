import java.util.function.Supplier;

/**
 * "CODES (of several the first one)", "what has a code changes nothing": each code that a promise lists, alone and
 * together with each one that it lists behind it.
 */
public final class RanksTest {
    private static final Check check = new Check();
    private static final int NO_ARRAY = 99;

    private interface Call {
        long on(DecisionArrays x);
    }

    public static void main(String[] args) {
        array();
        things();
        rows();
        grid();
        about();
        row();
        setRow();
        read();
        write();
        writeThings();
        placePinDecide();
        column();
        widens();
        fill();
        fillThings();
        move();
        moveThings();
        copy();
        deep();
        sort();
        search();
        sameAndHash();
        decideWhenFull();
        candidate();
        span();
        choose();
        decisionAndCandidateOf();
        rule();
        amount();
        best();
        markAndBack();
        count();
        check.end();
    }

    // objects that the calls below are made on

    private static final int INTS = 0;
    private static final int CLASS_TWO = 1;
    private static final int ANY_THINGS = 2;
    private static final int ROWS = 3;
    private static final int DEEP_THREE = 4;
    private static final int DEEP_FOUR = 5;
    private static final int ROWS_OF_CLASS = 6;
    private static final int ROWS_OF_ANY = 7;
    private static final int BYTES = 8;

    /** Places 1 of INTS and of CLASS_TWO are PINNED; of ROWS each first one is there, each second one is null. */
    private static DecisionArrays some() {
        DecisionArrays x = new DecisionArrays();
        Make.of(x, 4, 5, 7, 6);
        x.things(2, 3);
        x.write(CLASS_TWO, 1, 0, 0, 0, 8, 9);
        Make.of(x, 8, 2, 3, 0);
        x.rows(INTS, 2);
        x.rows(ROWS, 2);
        x.rows(DEEP_THREE, 2);
        x.rows(CLASS_TWO, 2);
        x.rows(ANY_THINGS, 2);
        Make.of(x, 2, 1, 2);
        x.setRow(ROWS, 0, INTS);
        x.setRow(DEEP_THREE, 0, ROWS);
        x.setRow(DEEP_FOUR, 0, DEEP_THREE);
        x.setRow(ROWS_OF_CLASS, 0, CLASS_TWO);
        x.setRow(ROWS_OF_ANY, 0, ANY_THINGS);
        x.pin(INTS, 1, 0, 0, 0, true);
        x.pin(CLASS_TWO, 1, 0, 0, 0, true);
        return x;
    }

    /** DECISION 0 is free, 1 PINNED, 2 of THINGS of a CLASS; 3 has as many CANDIDATES as can be, 4 is a boolean. */
    private static DecisionArrays decided() {
        DecisionArrays x = some();
        int flags = x.array(0, 1);
        x.decide(INTS, 0, 0, 0, 0);
        x.decide(INTS, 1, 0, 0, 0);
        x.decide(CLASS_TWO, 0, 0, 0, 0);
        x.decide(BYTES, 0, 0, 0, 0);
        x.decide(flags, 0, 0, 0, 0);
        x.span(0, 5, 7, 1);
        x.span(1, 5, 6, 1);
        x.candidate(2, 2);
        x.span(3, 1, 16, 1);
        x.rule(0, INTS, 3, 20, 20);
        x.mark();
        return x;
    }

    private static DecisionArrays sixtyArrays() {
        DecisionArrays x = some();
        Make.upToArrays(x, 60);
        return x;
    }

    private static DecisionArrays fourThousandElements() {
        DecisionArrays x = some();
        Make.upToElements(x, 4000);
        return x;
    }

    private static DecisionArrays allDecisions() {
        DecisionArrays x = some();
        Make.decisions(x, x.array(4, 24), 24);
        return x;
    }

    private static DecisionArrays allRules() {
        DecisionArrays x = some();
        Make.rules(x, INTS, 12);
        return x;
    }

    /** THINGS of a CLASS, in an array without PINS, with as many CANDIDATES as can be. */
    private static DecisionArrays allCandidates() {
        DecisionArrays x = new DecisionArrays();
        x.things(2, 1);
        x.decide(0, 0, 0, 0, 0);
        for (int c = 0; c < 16; c++) {
            x.candidate(0, 2 + 7 * c);
        }
        return x;
    }

    private static DecisionArrays tooManyWays() {
        DecisionArrays x = new DecisionArrays();
        int a = x.array(4, 4);
        Make.decisions(x, a, 4);
        x.span(0, 1, 3, 1);
        x.span(1, 1, 16, 1);
        x.span(2, 1, 16, 1);
        x.span(3, 1, 7, 1);
        x.rule(0, a, 1, 50, 50);
        return x;
    }

    private static DecisionArrays allMarks() {
        DecisionArrays x = some();
        for (int n = 0; n < 8; n++) {
            x.mark();
        }
        return x;
    }

    // how a call is held against what is due

    private static void refused(Supplier<DecisionArrays> made, int code, Call... calls) {
        answered(made, -code, code, calls);
    }

    private static void zero(Supplier<DecisionArrays> made, int code, Call... calls) {
        answered(made, 0, code, calls);
    }

    /** Each call has a new object; one more of the same making tells how it looked before. */
    private static void answered(Supplier<DecisionArrays> made, long answer, int code, Call... calls) {
        String before = Seen.of(made.get());
        for (Call call : calls) {
            DecisionArrays x = made.get();
            check.silent(x, call.on(x), answer, code);
            check.alike(Seen.of(x), before);
        }
    }

    // the calls

    private static void array() {
        check.promise("2 array: 9, 4, 8");
        refused(RanksTest::some, 9, x -> x.array(-1, 1), x -> x.array(9, 1), x -> x.array(9, -1), x -> x.array(9, 201));
        refused(RanksTest::sixtyArrays, 9, x -> x.array(9, 0), x -> x.array(-1, -1));
        refused(RanksTest::some, 4, x -> x.array(4, -1));
        refused(RanksTest::sixtyArrays, 4, x -> x.array(4, -1));
        refused(RanksTest::fourThousandElements, 4, x -> x.array(4, -1));
        refused(RanksTest::some, 8, x -> x.array(4, 201));
        refused(RanksTest::sixtyArrays, 8, x -> x.array(4, 0));
        refused(RanksTest::fourThousandElements, 8, x -> x.array(4, 1));
    }

    private static void things() {
        check.promise("3 things: 9, 4, 8");
        refused(RanksTest::some, 9, x -> x.things(-1, 1), x -> x.things(7, 1), x -> x.things(7, -1), x -> x.things(7, 201));
        refused(RanksTest::sixtyArrays, 9, x -> x.things(7, 0), x -> x.things(-1, -1));
        refused(RanksTest::some, 4, x -> x.things(0, -1));
        refused(RanksTest::sixtyArrays, 4, x -> x.things(0, -1));
        refused(RanksTest::fourThousandElements, 4, x -> x.things(6, -1));
        refused(RanksTest::some, 8, x -> x.things(0, 201));
        refused(RanksTest::sixtyArrays, 8, x -> x.things(0, 0));
        refused(RanksTest::fourThousandElements, 8, x -> x.things(0, 1));
    }

    private static void rows() {
        check.promise("4 rows: 5, 9, 4, 8");
        refused(RanksTest::some, 5, x -> x.rows(NO_ARRAY, 1), x -> x.rows(-1, 1), x -> x.rows(NO_ARRAY, -1),
            x -> x.rows(NO_ARRAY, 201));
        refused(RanksTest::sixtyArrays, 5, x -> x.rows(60, 0));
        refused(RanksTest::some, 9, x -> x.rows(DEEP_FOUR, 1), x -> x.rows(DEEP_FOUR, -1), x -> x.rows(DEEP_FOUR, 201));
        refused(RanksTest::sixtyArrays, 9, x -> x.rows(DEEP_FOUR, 0));
        refused(RanksTest::some, 4, x -> x.rows(INTS, -1));
        refused(RanksTest::sixtyArrays, 4, x -> x.rows(DEEP_THREE, -1));
        refused(RanksTest::some, 8, x -> x.rows(INTS, 201));
        refused(RanksTest::sixtyArrays, 8, x -> x.rows(INTS, 0));
        refused(RanksTest::fourThousandElements, 8, x -> x.rows(INTS, 1));
    }

    private static void grid() {
        check.promise("5 grid: 9, 4, 8 (nothing is made)");
        refused(RanksTest::some, 9, x -> x.grid(8, 1, 1, 1, 1, 1), x -> x.grid(-1, 1, 1, 1, 1, 1),
            x -> x.grid(4, 0, 1, 1, 1, 1), x -> x.grid(4, 5, 1, 1, 1, 1), x -> x.grid(8, 2, -1, -1, -1, -1),
            x -> x.grid(4, 5, -1, 1, 1, 1), x -> x.grid(4, 0, 201, 201, 1, 1), x -> x.grid(9, 1, 201, 1, 1, 1));
        refused(RanksTest::sixtyArrays, 9, x -> x.grid(8, 1, 0, 0, 0, 0), x -> x.grid(4, -1, 0, 0, 0, 0));
        refused(RanksTest::some, 4, x -> x.grid(4, 1, -1, 1, 1, 1), x -> x.grid(4, 2, 1, -1, 1, 1),
            x -> x.grid(4, 3, 1, 1, -1, 1), x -> x.grid(4, 4, 1, 1, 1, -1), x -> x.grid(4, 2, 201, -1, 1, 1),
            x -> x.grid(4, 2, -1, 201, 1, 1), x -> x.grid(4, 4, 200, 200, 200, -1), x -> x.grid(4, 3, 0, 0, -1, 1));
        refused(RanksTest::sixtyArrays, 4, x -> x.grid(4, 1, -1, 0, 0, 0));
        refused(RanksTest::some, 8, x -> x.grid(4, 1, 201, 1, 1, 1), x -> x.grid(4, 2, 1, 201, 1, 1),
            x -> x.grid(4, 3, 1, 1, 201, 1), x -> x.grid(4, 4, 1, 1, 1, 201), x -> x.grid(4, 2, 51, 1, 0, 0),
            x -> x.grid(4, 2, 20, 199, 0, 0));
        refused(RanksTest::sixtyArrays, 8, x -> x.grid(4, 1, 0, 0, 0, 0));
        refused(RanksTest::fourThousandElements, 8, x -> x.grid(4, 1, 1, 0, 0, 0), x -> x.grid(4, 2, 1, 0, 0, 0));
    }

    private static void about() {
        check.promise("6 about: 5, 9");
        refused(RanksTest::some, 5, x -> x.about(NO_ARRAY, 0), x -> x.about(-1, 0), x -> x.about(NO_ARRAY, 6),
            x -> x.about(-1, -1));
        refused(RanksTest::some, 9, x -> x.about(INTS, 6), x -> x.about(INTS, -1), x -> x.about(ROWS, 6));
    }

    private static void row() {
        check.promise("7 row: 5, 1, 2 (-1 is answered)");
        answered(RanksTest::some, -1, 5, x -> x.row(NO_ARRAY, 0), x -> x.row(-1, 0), x -> x.row(NO_ARRAY, -1));
        answered(RanksTest::some, -1, 1, x -> x.row(INTS, 0), x -> x.row(INTS, -1), x -> x.row(INTS, 3));
        answered(RanksTest::some, -1, 2, x -> x.row(ROWS, -1), x -> x.row(ROWS, 2));
    }

    private static void setRow() {
        check.promise("8 setRow: 5 (also r), 2, 1");
        refused(RanksTest::some, 5, x -> x.setRow(NO_ARRAY, 0, INTS), x -> x.setRow(-1, 0, -1), x -> x.setRow(ROWS, 0, NO_ARRAY),
            x -> x.setRow(ROWS, 0, -2), x -> x.setRow(NO_ARRAY, -1, INTS), x -> x.setRow(ROWS, 2, NO_ARRAY),
            x -> x.setRow(INTS, 0, NO_ARRAY), x -> x.setRow(INTS, 3, -2));
        refused(RanksTest::some, 2, x -> x.setRow(ROWS, -1, INTS), x -> x.setRow(ROWS, 2, INTS), x -> x.setRow(ROWS, 2, -1),
            x -> x.setRow(INTS, 3, -1), x -> x.setRow(INTS, -1, INTS), x -> x.setRow(ROWS, 2, BYTES));
        refused(RanksTest::some, 1, x -> x.setRow(INTS, 0, -1), x -> x.setRow(INTS, 0, INTS), x -> x.setRow(ROWS, 0, BYTES),
            x -> x.setRow(ROWS, 0, ROWS), x -> x.setRow(DEEP_THREE, 0, INTS), x -> x.setRow(DEEP_THREE, 0, DEEP_FOUR),
            x -> x.setRow(ROWS_OF_CLASS, 0, ANY_THINGS), x -> x.setRow(ROWS_OF_ANY, 0, CLASS_TWO));
    }

    private static void read() {
        check.promise("9 read: 5, 9 (reader), 2, 3, 1");
        zero(RanksTest::some, 5, x -> x.read(NO_ARRAY, 0, 0, 0, 0, 4), x -> x.read(-1, 0, 0, 0, 0, 4),
            x -> x.read(NO_ARRAY, 0, 0, 0, 0, 9), x -> x.read(NO_ARRAY, -1, 0, 0, 0, 4));
        zero(RanksTest::some, 9, x -> x.read(INTS, 0, 0, 0, 0, 9), x -> x.read(INTS, 0, 0, 0, 0, -1),
            x -> x.read(INTS, 3, 0, 0, 0, 9), x -> x.read(ROWS, 1, 0, 0, 0, 9));
        zero(RanksTest::some, 2, x -> x.read(INTS, 3, 0, 0, 0, 4), x -> x.read(INTS, -1, 0, 0, 0, 4),
            x -> x.read(INTS, 3, 0, 0, 0, 3), x -> x.read(ROWS, 2, 0, 0, 0, 3), x -> x.read(ROWS, 0, 3, 0, 0, 3));
        zero(RanksTest::some, 3, x -> x.read(ROWS, 1, 0, 0, 0, 4), x -> x.read(ROWS, 1, -1, 0, 0, 4),
            x -> x.read(ROWS, 1, 0, 0, 0, 3), x -> x.read(DEEP_FOUR, 0, 1, 9, 9, 4));
        zero(RanksTest::some, 1, x -> x.read(INTS, 0, 0, 0, 0, 3), x -> x.read(INTS, 0, 0, 0, 0, 8),
            x -> x.read(ROWS, 0, 0, 0, 0, 0));
    }

    private static void write() {
        check.promise("10 write: 5, 9, 2, 3, 1, 6, 7");
        refused(RanksTest::some, 5, x -> x.write(NO_ARRAY, 0, 0, 0, 0, 4, 1), x -> x.write(-1, 0, 0, 0, 0, 4, 1),
            x -> x.write(NO_ARRAY, 0, 0, 0, 0, 9, 1), x -> x.write(NO_ARRAY, 0, 0, 0, 0, 0, 2),
            x -> x.write(NO_ARRAY, -1, 0, 0, 0, 4, 1));
        refused(RanksTest::some, 9, x -> x.write(INTS, 0, 0, 0, 0, 9, 1), x -> x.write(INTS, 0, 0, 0, 0, -1, 1),
            x -> x.write(INTS, 0, 0, 0, 0, 4, 1L << 31), x -> x.write(INTS, 3, 0, 0, 0, 9, 1),
            x -> x.write(INTS, 3, 0, 0, 0, 2, 128), x -> x.write(ROWS, 1, 0, 0, 0, 2, 128),
            x -> x.write(INTS, 0, 0, 0, 0, 0, 2), x -> x.write(INTS, 1, 0, 0, 0, 2, 128));
        refused(RanksTest::some, 2, x -> x.write(INTS, 3, 0, 0, 0, 4, 1), x -> x.write(INTS, -1, 0, 0, 0, 4, 1),
            x -> x.write(INTS, 3, 0, 0, 0, 5, 1), x -> x.write(ROWS, 2, 0, 0, 0, 0, 1), x -> x.write(ROWS, 0, 3, 0, 0, 4, 1));
        refused(RanksTest::some, 3, x -> x.write(ROWS, 1, 0, 0, 0, 4, 1), x -> x.write(ROWS, 1, 9, 0, 0, 4, 1),
            x -> x.write(ROWS, 1, 0, 0, 0, 5, 1));
        refused(RanksTest::some, 1, x -> x.write(INTS, 0, 0, 0, 0, 5, 1), x -> x.write(INTS, 0, 0, 0, 0, 8, 1),
            x -> x.write(INTS, 1, 0, 0, 0, 5, 1), x -> x.write(ROWS, 0, 1, 0, 0, 0, 1));
        refused(RanksTest::some, 6, x -> x.write(INTS, 1, 0, 0, 0, 4, 1), x -> x.write(INTS, 1, 0, 0, 0, 4, 7),
            x -> x.write(ROWS, 0, 1, 0, 0, 2, 7), x -> x.write(DEEP_FOUR, 0, 0, 0, 1, 2, 7));
    }

    private static void writeThings() {
        check.promise("10 write: 9, 1, 6, 7 of THINGS");
        refused(RanksTest::some, 9, x -> x.write(CLASS_TWO, 0, 0, 0, 0, 8, 1001), x -> x.write(CLASS_TWO, 1, 0, 0, 0, 8, -1));
        refused(RanksTest::some, 1, x -> x.write(CLASS_TWO, 0, 0, 0, 0, 4, 3), x -> x.write(CLASS_TWO, 1, 0, 0, 0, 0, 1));
        refused(RanksTest::some, 6, x -> x.write(CLASS_TWO, 1, 0, 0, 0, 8, 9), x -> x.write(CLASS_TWO, 1, 0, 0, 0, 8, 3),
            x -> x.write(CLASS_TWO, 1, 0, 0, 0, 8, 0), x -> x.write(ROWS_OF_CLASS, 0, 1, 0, 0, 8, 3));
        refused(RanksTest::some, 7, x -> x.write(CLASS_TWO, 0, 0, 0, 0, 8, 1), x -> x.write(CLASS_TWO, 0, 0, 0, 0, 8, 3),
            x -> x.write(ROWS_OF_CLASS, 0, 2, 0, 0, 8, 1000));
    }

    private static void placePinDecide() {
        check.promise("11 place, 12 pin, 24 decide: 5, 2, 3");
        refused(RanksTest::some, 5, x -> x.place(NO_ARRAY, -1, 0, 0, 0), x -> x.place(-1, 0, 0, 0, 0),
            x -> x.pin(NO_ARRAY, -1, 0, 0, 0, true), x -> x.pin(-1, 0, 0, 0, 0, false),
            x -> x.decide(NO_ARRAY, -1, 0, 0, 0), x -> x.decide(-1, 0, 0, 0, 0));
        refused(RanksTest::some, 2, x -> x.place(INTS, 3, 0, 0, 0), x -> x.place(ROWS, 2, 0, 0, 0), x -> x.place(ROWS, 0, -1, 0, 0),
            x -> x.pin(INTS, 3, 0, 0, 0, true), x -> x.pin(ROWS, 2, 0, 0, 0, true), x -> x.pin(ROWS, 0, -1, 0, 0, false),
            x -> x.decide(INTS, 3, 0, 0, 0), x -> x.decide(ROWS, 2, 0, 0, 0), x -> x.decide(ROWS, 0, -1, 0, 0));
        refused(RanksTest::some, 3, x -> x.place(ROWS, 1, 0, 0, 0), x -> x.place(ROWS, 1, -1, 0, 0),
            x -> x.pin(ROWS, 1, 0, 0, 0, true), x -> x.pin(ROWS, 1, -1, 0, 0, false),
            x -> x.decide(ROWS, 1, 0, 0, 0), x -> x.decide(ROWS, 1, -1, 0, 0));
    }

    private static void column() {
        check.promise("13 column: 9");
        refused(RanksTest::some, 9, x -> x.column(-1, 0), x -> x.column(9, 0), x -> x.column(4, -1), x -> x.column(9, -1));
    }

    private static void widens() {
        check.promise("15 widens: 9");
        refused(RanksTest::some, 9, x -> x.widens(-1, 0), x -> x.widens(9, 0), x -> x.widens(0, -1), x -> x.widens(0, 9),
            x -> x.widens(9, 9), x -> x.widens(-1, -1));
    }

    private static void fill() {
        check.promise("16 fill: 5, 9, 1 (also another DEPTH), 2, 6");
        refused(RanksTest::some, 5, x -> x.fill(NO_ARRAY, 0, 1, 4, 1), x -> x.fill(-1, 0, 1, 4, 1),
            x -> x.fill(NO_ARRAY, 0, 1, 9, 1), x -> x.fill(NO_ARRAY, 2, 1, 4, 1), x -> x.fill(NO_ARRAY, 0, 1, 4, 1L << 31));
        refused(RanksTest::some, 9, x -> x.fill(INTS, 0, 1, 9, 1), x -> x.fill(INTS, 0, 1, -1, 1),
            x -> x.fill(INTS, 0, 1, 4, 1L << 31), x -> x.fill(INTS, 0, 1, 0, 2), x -> x.fill(ROWS, 0, 1, 0, 2),
            x -> x.fill(INTS, 2, 1, 2, 128), x -> x.fill(INTS, 0, 4, 9, 1), x -> x.fill(INTS, 0, 3, 2, 128),
            x -> x.fill(INTS, 0, 0, 4, 1L << 31));
        refused(RanksTest::some, 1, x -> x.fill(INTS, 0, 1, 5, 1), x -> x.fill(INTS, 0, 1, 0, 1), x -> x.fill(INTS, 0, 1, 8, 1),
            x -> x.fill(ROWS, 0, 1, 4, 0), x -> x.fill(ROWS, 0, 3, 4, 0), x -> x.fill(INTS, 0, 4, 5, 1),
            x -> x.fill(INTS, -1, 1, 5, 1), x -> x.fill(INTS, 2, 1, 0, 1), x -> x.fill(INTS, 0, 3, 5, 1),
            x -> x.fill(INTS, 0, 0, 5, 1));
        refused(RanksTest::some, 2, x -> x.fill(INTS, -1, 1, 4, 1), x -> x.fill(INTS, 0, 4, 4, 1), x -> x.fill(INTS, 1, 0, 4, 1),
            x -> x.fill(INTS, 2, 1, 4, 1), x -> x.fill(INTS, 4, 4, 4, 1), x -> x.fill(INTS, 0, -1, 4, 1),
            x -> x.fill(INTS, 1, 4, 4, 7));
        refused(RanksTest::some, 6, x -> x.fill(INTS, 0, 3, 4, 1), x -> x.fill(INTS, 1, 2, 4, 7), x -> x.fill(INTS, 0, 2, 4, 7),
            x -> x.fill(INTS, 1, 3, 2, 7));
    }

    private static void fillThings() {
        check.promise("16 fill: 9, 1, 2, 6, 7 of THINGS");
        refused(RanksTest::some, 9, x -> x.fill(CLASS_TWO, 0, 1, 8, 1001), x -> x.fill(CLASS_TWO, 0, 4, 8, -1));
        refused(RanksTest::some, 1, x -> x.fill(CLASS_TWO, 0, 1, 4, 3), x -> x.fill(ROWS_OF_CLASS, 0, 1, 8, 3));
        refused(RanksTest::some, 2, x -> x.fill(CLASS_TWO, 0, 4, 8, 3), x -> x.fill(CLASS_TWO, -1, 1, 8, 3));
        refused(RanksTest::some, 6, x -> x.fill(CLASS_TWO, 0, 3, 8, 3), x -> x.fill(CLASS_TWO, 1, 2, 8, 9));
        refused(RanksTest::some, 7, x -> x.fill(CLASS_TWO, 0, 1, 8, 3), x -> x.fill(CLASS_TWO, 2, 3, 8, 1000));
    }

    private static void move() {
        check.promise("17 move: 5, 1, 4, 2, 6");
        refused(RanksTest::some, 5, x -> x.move(NO_ARRAY, 0, INTS, 0, 1), x -> x.move(INTS, 0, NO_ARRAY, 0, 1),
            x -> x.move(-1, 0, INTS, 0, 1), x -> x.move(INTS, 0, -1, 0, 1), x -> x.move(NO_ARRAY, 0, INTS, 0, -1),
            x -> x.move(ROWS, 9, NO_ARRAY, 9, 1), x -> x.move(NO_ARRAY, 0, INTS, 1, 1));
        refused(RanksTest::some, 1, x -> x.move(INTS, 0, BYTES, 0, 1), x -> x.move(BYTES, 0, INTS, 0, 1),
            x -> x.move(INTS, 0, ROWS, 0, 1), x -> x.move(ROWS, 0, DEEP_THREE, 0, 1),
            x -> x.move(ROWS_OF_CLASS, 0, ROWS_OF_ANY, 0, 1), x -> x.move(ROWS_OF_ANY, 0, ROWS_OF_CLASS, 0, 1),
            x -> x.move(INTS, 0, BYTES, 0, 0), x -> x.move(INTS, 0, BYTES, 0, -1), x -> x.move(INTS, 3, BYTES, 0, 1),
            x -> x.move(BYTES, 0, INTS, -1, 1), x -> x.move(BYTES, 0, INTS, 1, 1));
        refused(RanksTest::some, 4, x -> x.move(INTS, 0, INTS, 0, -1), x -> x.move(INTS, -1, INTS, 0, -1),
            x -> x.move(INTS, 0, INTS, 4, -1), x -> x.move(INTS, 1, INTS, 1, -1), x -> x.move(ROWS, 2, ROWS, 2, Integer.MIN_VALUE));
        refused(RanksTest::some, 2, x -> x.move(INTS, -1, INTS, 0, 1), x -> x.move(INTS, 0, INTS, -1, 1),
            x -> x.move(INTS, 3, INTS, 0, 1), x -> x.move(INTS, 0, INTS, 3, 1), x -> x.move(INTS, 0, INTS, 0, 4),
            x -> x.move(INTS, 4, INTS, 0, 0), x -> x.move(INTS, 0, INTS, 4, 0), x -> x.move(INTS, 2, INTS, 1, 2),
            x -> x.move(INTS, 0, INTS, 1, 3), x -> x.move(ROWS, 1, ROWS, 0, 2));
        refused(RanksTest::some, 6, x -> x.move(INTS, 0, INTS, 1, 1), x -> x.move(INTS, 1, INTS, 1, 1),
            x -> x.move(INTS, 0, INTS, 0, 2), x -> x.move(INTS, 0, INTS, 1, 2), x -> x.move(INTS, 0, INTS, 0, 3));
    }

    private static void moveThings() {
        check.promise("17 move: 2, 6, 7 of THINGS");
        refused(RanksTest::some, 2, x -> x.move(ANY_THINGS, 1, CLASS_TWO, 0, 3), x -> x.move(ANY_THINGS, 0, CLASS_TWO, 1, 3));
        refused(RanksTest::some, 6, x -> x.move(ANY_THINGS, 0, CLASS_TWO, 0, 3), x -> x.move(ANY_THINGS, 1, CLASS_TWO, 1, 1),
            x -> x.move(ANY_THINGS, 1, CLASS_TWO, 0, 2));
        refused(RanksTest::some, 7, x -> x.move(ANY_THINGS, 1, CLASS_TWO, 0, 1), x -> x.move(ANY_THINGS, 1, CLASS_TWO, 2, 1));
    }

    private static void copy() {
        check.promise("18 copy: 5, 4, 8");
        refused(RanksTest::some, 5, x -> x.copy(NO_ARRAY, 1), x -> x.copy(-1, 1), x -> x.copy(NO_ARRAY, -1),
            x -> x.copy(NO_ARRAY, 201));
        refused(RanksTest::sixtyArrays, 5, x -> x.copy(60, 0));
        refused(RanksTest::some, 4, x -> x.copy(INTS, -1), x -> x.copy(DEEP_FOUR, Integer.MIN_VALUE));
        refused(RanksTest::sixtyArrays, 4, x -> x.copy(INTS, -1));
        refused(RanksTest::some, 8, x -> x.copy(INTS, 201), x -> x.copy(ROWS, 201));
        refused(RanksTest::sixtyArrays, 8, x -> x.copy(INTS, 0));
        refused(RanksTest::fourThousandElements, 8, x -> x.copy(INTS, 1), x -> x.copy(DEEP_FOUR, 1));
    }

    private static void deep() {
        check.promise("19 deep: 5, 8 (nothing is made)");
        refused(RanksTest::some, 5, x -> x.deep(NO_ARRAY), x -> x.deep(-1));
        refused(RanksTest::sixtyArrays, 5, x -> x.deep(60));
        refused(RanksTest::sixtyArrays, 8, x -> x.deep(INTS), x -> x.deep(DEEP_FOUR));
        refused(RanksTest::fourThousandElements, 8, x -> x.deep(INTS), x -> x.deep(DEEP_FOUR));
    }

    private static void sort() {
        check.promise("20 sort: 5, 1 (another DEPTH), 2, 6");
        refused(RanksTest::some, 5, x -> x.sort(NO_ARRAY, 0, 1), x -> x.sort(-1, 0, 1), x -> x.sort(NO_ARRAY, 1, 0));
        refused(RanksTest::some, 1, x -> x.sort(ROWS, 0, 1), x -> x.sort(ROWS, 0, 3), x -> x.sort(ROWS, 1, 0),
            x -> x.sort(DEEP_FOUR, -1, 1));
        refused(RanksTest::some, 2, x -> x.sort(INTS, -1, 1), x -> x.sort(INTS, 0, 4), x -> x.sort(INTS, 2, 1),
            x -> x.sort(INTS, 4, 4), x -> x.sort(INTS, 1, 4));
        refused(RanksTest::some, 6, x -> x.sort(INTS, 0, 3), x -> x.sort(INTS, 1, 2), x -> x.sort(INTS, 1, 3));
    }

    private static void search() {
        check.promise("21 search: 5, 9 (BITS), 1 (another DEPTH)");
        refused(RanksTest::some, 5, x -> x.search(NO_ARRAY, 1), x -> x.search(-1, 1), x -> x.search(NO_ARRAY, 1L << 31));
        refused(RanksTest::some, 9, x -> x.search(INTS, 1L << 31), x -> x.search(ROWS, 1L << 31), x -> x.search(BYTES, -129),
            x -> x.search(ROWS_OF_ANY, 1001));
        refused(RanksTest::some, 1, x -> x.search(ROWS, 1), x -> x.search(DEEP_FOUR, 1));
    }

    private static void sameAndHash() {
        check.promise("22 same: 5; 23 hash: 5");
        refused(RanksTest::some, 5, x -> x.same(NO_ARRAY, INTS), x -> x.same(INTS, NO_ARRAY), x -> x.same(-1, INTS),
            x -> x.same(INTS, -1), x -> x.same(-1, -1), x -> x.same(NO_ARRAY, NO_ARRAY), x -> x.same(ROWS, 9));
        zero(RanksTest::some, 5, x -> x.hash(NO_ARRAY), x -> x.hash(-1), x -> x.hash(9));
    }

    private static void decideWhenFull() {
        check.promise("24 decide: 5, 2, 3, 8");
        refused(RanksTest::allDecisions, 5, x -> x.decide(NO_ARRAY, 0, 0, 0, 0));
        refused(RanksTest::allDecisions, 2, x -> x.decide(INTS, 3, 0, 0, 0), x -> x.decide(ROWS, 0, 3, 0, 0));
        refused(RanksTest::allDecisions, 3, x -> x.decide(ROWS, 1, 0, 0, 0));
        refused(RanksTest::allDecisions, 8, x -> x.decide(INTS, 0, 0, 0, 0), x -> x.decide(INTS, 1, 0, 0, 0),
            x -> x.decide(ROWS, 0, 2, 0, 0));
    }

    private static void candidate() {
        check.promise("25 candidate: 9, 7, 8");
        refused(RanksTest::decided, 9, x -> x.candidate(5, 1), x -> x.candidate(-1, 1), x -> x.candidate(0, 1L << 31),
            x -> x.candidate(0, 5), x -> x.candidate(3, 128), x -> x.candidate(3, 16), x -> x.candidate(4, 2),
            x -> x.candidate(2, 1001), x -> x.candidate(2, -1), x -> x.candidate(2, 2));
        refused(RanksTest::decided, 7, x -> x.candidate(2, 1), x -> x.candidate(2, 1000));
        refused(RanksTest::decided, 8, x -> x.candidate(3, 17));
        refused(RanksTest::allCandidates, 9, x -> x.candidate(0, 2), x -> x.candidate(0, 1003));
        refused(RanksTest::allCandidates, 7, x -> x.candidate(0, 1), x -> x.candidate(0, 1000));
        refused(RanksTest::allCandidates, 8, x -> x.candidate(0, 0), x -> x.candidate(0, 996));
    }

    private static void span() {
        check.promise("26 span: 9, 8 (nothing changes)");
        refused(RanksTest::decided, 9, x -> x.span(5, 1, 2, 1), x -> x.span(-1, 1, 2, 1), x -> x.span(2, 2, 2, 1),
            x -> x.span(4, 0, 1, 1), x -> x.span(0, -1L << 32, 1, 1), x -> x.span(0, 1, 1L << 31, 1), x -> x.span(0, 1, 2, 0),
            x -> x.span(0, 1, 2, -1), x -> x.span(3, 1, 128, 1), x -> x.span(3, -129, 1, 1), x -> x.span(3, 17, 18, 0),
            x -> x.span(0, 2, 1, 0), x -> x.span(0, 1L << 31, 1, 1));
        refused(RanksTest::decided, 8, x -> x.span(3, 17, 17, 1), x -> x.span(3, 16, 17, 1), x -> x.span(0, 8, 21, 1),
            x -> x.span(0, 0, 16, 1));
    }

    private static void choose() {
        check.promise("27 choose: 9, 6");
        refused(RanksTest::decided, 9, x -> x.choose(5, 0), x -> x.choose(-1, 0), x -> x.choose(0, 3), x -> x.choose(0, -1),
            x -> x.choose(1, 2), x -> x.choose(1, -1), x -> x.choose(4, 0));
        refused(RanksTest::decided, 6, x -> x.choose(1, 0), x -> x.choose(1, 1));
    }

    private static void decisionAndCandidateOf() {
        check.promise("28 decision: 9; 29 candidateOf: 9");
        refused(RanksTest::decided, 9, x -> x.decision(5, 0), x -> x.decision(-1, 0), x -> x.decision(0, 4),
            x -> x.decision(0, -1), x -> x.decision(5, 4));
        zero(RanksTest::decided, 9, x -> x.candidateOf(5, 0), x -> x.candidateOf(-1, 0), x -> x.candidateOf(0, 3),
            x -> x.candidateOf(0, -1), x -> x.candidateOf(4, 0), x -> x.candidateOf(3, 16));
    }

    private static void rule() {
        check.promise("30 rule: 5, 9, 1 (another DEPTH), 8");
        refused(RanksTest::allRules, 5, x -> x.rule(0, NO_ARRAY, 1, 0, 0), x -> x.rule(6, -1, 1, 0, 0),
            x -> x.rule(0, NO_ARRAY, 1001, 0, 0));
        refused(RanksTest::some, 9, x -> x.rule(-1, INTS, 1, 0, 0), x -> x.rule(6, INTS, 1, 0, 0), x -> x.rule(0, INTS, 1001, 0, 0),
            x -> x.rule(0, INTS, -1001, 0, 0), x -> x.rule(3, INTS, 1, 1L << 31, 0), x -> x.rule(6, ROWS, 1, 0, 0),
            x -> x.rule(0, ROWS, 1001, 0, 0), x -> x.rule(3, ROWS, 1, 1L << 31, 0), x -> x.rule(3, ANY_THINGS, 1, 1001, 0));
        refused(RanksTest::allRules, 9, x -> x.rule(6, INTS, 1, 0, 0), x -> x.rule(0, INTS, -1001, 0, 0),
            x -> x.rule(3, BYTES, 1, 128, 0));
        refused(RanksTest::some, 1, x -> x.rule(0, ROWS, 1, 0, 0), x -> x.rule(3, DEEP_FOUR, 1, 0, 0));
        refused(RanksTest::allRules, 1, x -> x.rule(5, ROWS, 1, 0, 0));
        refused(RanksTest::allRules, 8, x -> x.rule(0, INTS, 1, 0, 0), x -> x.rule(3, INTS, 1, 0, 0));
    }

    private static void amount() {
        check.promise("31 amount: 0 with a code: 9");
        zero(RanksTest::decided, 9, x -> x.amount(1), x -> x.amount(-1));
        zero(RanksTest::allRules, 9, x -> x.amount(12));
    }

    private static void best() {
        check.promise("33 best: 8 (nothing is made)");
        refused(RanksTest::tooManyWays, 8, x -> x.best());
    }

    private static void markAndBack() {
        check.promise("34 mark: 8; 35 back: 9");
        refused(RanksTest::allMarks, 8, x -> x.mark());
        refused(RanksTest::some, 9, x -> x.back());
    }

    private static void count() {
        check.promise("36 count: 9");
        refused(RanksTest::decided, 9, x -> x.count(-1), x -> x.count(6));
    }
}

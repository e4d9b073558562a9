/** What code() is behind each call; an object's 512 calls; and that no call ever throws, then or later. */
public final class CallsTest {
    private static final Check check = new Check();
    private static final int[] WILD = {Integer.MIN_VALUE, -2, -1, 0, 1, 3, 8, 59, 60, 200, Integer.MAX_VALUE};
    private static final long[] WILD_BITS = {Long.MIN_VALUE, Integer.MIN_VALUE, -1, 0, 1, 2, 1000, 0x7FC00000L, 0x7FF8000000000001L,
        Long.MAX_VALUE};

    /** Of the six sorts of RULES on 200 elements that are 0. */
    private static final long[] AMOUNTS = {0, 19900, 0, 200, 0, 0};

    private interface Call {
        long on(DecisionArrays x);
    }

    public static void main(String[] args) {
        zeroBehindFineCalls();
        codeBehindRefusedCalls();
        bitsAreZeroWithCode();
        callsWithoutCodes();
        twoObjects();
        lastOfManyWrites();
        fullToTheLastCall();
        neverThrows();
        check.end();
    }

    /** INTS is array 0, ROWS of it array 1; one DECISION with two CANDIDATES, one RULE. */
    private static DecisionArrays some() {
        DecisionArrays x = new DecisionArrays();
        Make.of(x, 4, 3, 1, 2);
        x.rows(0, 2);
        x.setRow(1, 0, 0);
        x.decide(0, 0, 0, 0, 0);
        x.span(0, 3, 4, 1);
        x.rule(0, 0, 1, 0, 0);
        return x;
    }

    private static void zeroBehindFineCalls() {
        check.promise("14 code: 0 when the latest call that has codes had none");
        Call[] fine = {x -> x.array(4, 0), x -> x.things(0, 0), x -> x.rows(0, 0), x -> x.grid(4, 1, 0, 0, 0, 0),
            x -> x.about(0, 0), x -> x.row(1, 1), x -> x.setRow(1, 1, -1), x -> x.read(0, 0, 0, 0, 0, 4),
            x -> x.write(0, 0, 0, 0, 0, 4, 0), x -> x.place(0, 0, 0, 0, 0), x -> x.pin(0, 0, 0, 0, 0, false),
            x -> x.column(4, 0), x -> x.column(8, 0), x -> x.widens(0, 8), x -> x.fill(0, 0, 0, 4, 0),
            x -> x.move(0, 0, 0, 0, 0), x -> x.copy(0, 0), x -> x.deep(0), x -> x.sort(0, 0, 3), x -> x.search(0, 9),
            x -> x.same(0, 1), x -> x.hash(0), x -> x.decide(0, 0, 0, 0, 0), x -> x.candidate(0, 9),
            x -> x.span(0, 1, 0, 1), x -> x.choose(0, 0), x -> x.decision(0, 0), x -> x.candidateOf(0, 0),
            x -> x.rule(0, 0, 0, 0, 0), x -> x.amount(0), x -> x.best(), x -> x.mark(), x -> x.count(0)};
        for (Call call : fine) {
            DecisionArrays x = some();
            check.refused(x, x.array(4, -1), 4);
            call.on(x);
            check.due(x.code(), 0);
            check.due(x.code(), 0);
        }
        DecisionArrays x = some();
        x.mark();
        check.refused(x, x.array(4, -1), 4);
        check.fine(x, x.back(), 0);
        x.write(0, 0, 0, 0, 0, 4, 9);
        check.refused(x, x.array(4, -1), 4);
        check.fine(x, x.decision(0, 3), -2);
    }

    private static void codeBehindRefusedCalls() {
        check.promise("14 code: of the latest call that has codes, above 0");
        Call[] nine = {x -> x.array(9, 0), x -> x.things(7, 0), x -> x.grid(8, 1, 0, 0, 0, 0), x -> x.about(0, 6),
            x -> x.write(0, 0, 0, 0, 0, 9, 0), x -> x.column(9, 0), x -> x.widens(0, 9), x -> x.fill(0, 0, 0, 9, 0),
            x -> x.search(0, 1L << 31), x -> x.candidate(1, 9), x -> x.span(0, 1, 0, 0), x -> x.choose(0, 2),
            x -> x.decision(0, 4), x -> x.rule(6, 0, 0, 0, 0), x -> x.back(), x -> x.count(6)};
        for (Call call : nine) {
            refusedBehindFine(call, -9, 9);
        }
        Call[] five = {x -> x.rows(2, 0), x -> x.setRow(2, 0, -1), x -> x.place(2, 0, 0, 0, 0), x -> x.pin(2, 0, 0, 0, 0, true),
            x -> x.move(0, 0, 2, 0, 0), x -> x.copy(2, 0), x -> x.deep(2), x -> x.sort(2, 0, 0), x -> x.same(0, 2),
            x -> x.decide(2, 0, 0, 0, 0)};
        for (Call call : five) {
            refusedBehindFine(call, -5, 5);
        }
        refusedBehindFine(x -> x.row(1, 2), -1, 2);
    }

    private static void bitsAreZeroWithCode() {
        check.promise("2 those that answer BITS answer 0, and code() tells");
        refusedBehindFine(x -> x.read(0, 0, 0, 0, 0, 3), 0, 1);
        refusedBehindFine(x -> x.read(0, 0, 0, 0, 0, 9), 0, 9);
        refusedBehindFine(x -> x.candidateOf(0, 2), 0, 9);
        refusedBehindFine(x -> x.amount(1), 0, 9);
        refusedBehindFine(x -> x.hash(2), 0, 5);
    }

    private static void refusedBehindFine(Call call, long answer, int code) {
        DecisionArrays x = some();
        check.fine(x, x.count(0), 2);
        check.silent(x, call.on(x), answer, code);
        check.due(x.code(), code);
    }

    private static void callsWithoutCodes() {
        check.promise("14 code: score() and code() have no codes");
        DecisionArrays x = some();
        check.refused(x, x.array(4, -1), 4);
        check.due(x.score(), 6);
        check.due(x.code(), 4);
        check.fine(x, x.count(0), 2);
        check.due(x.score(), 6);
        check.due(x.code(), 0);
    }

    private static void twoObjects() {
        check.promise("1 each object has what is its own");
        DecisionArrays x = some();
        DecisionArrays y = new DecisionArrays();
        check.refused(x, x.count(6), 9);
        check.due(y.code(), 0);
        check.fine(y, y.count(0), 0);
        check.due(x.code(), 9);
        check.due(y.score(), 0);
        check.fine(y, y.array(0, 1), 0);
        check.fine(x, x.about(0, 0), 4);
        y.mark();
        check.refused(x, x.back(), 9);
    }

    // ---- "An object is used for at most 512 calls after it has been made"

    private static void lastOfManyWrites() {
        check.promise("the 512th call answers as the first does");
        DecisionArrays x = new DecisionArrays();
        x.array(5, 200);
        for (int call = 2; call < 511; call++) {
            check.due(x.write(0, call % 200, 0, 0, 0, 5, call), 0);
        }
        check.due(x.read(0, 110, 0, 0, 0, 5), 510);
        check.due(x.read(0, 111, 0, 0, 0, 5), 311);
    }

    /** As many arrays, elements, DECISIONS, CANDIDATES, RULES and MARKS as can be, and then calls up to the last. */
    private static void fullToTheLastCall() {
        check.promise("a full object up to its 512th call");
        DecisionArrays x = new DecisionArrays();
        int calls = fill(x);
        long[] counts = {60, 4000, 24, 12, 8, 5001};
        for (int what = 0; what <= 5; what++) {
            check.due(x.count(what), counts[what]);
        }
        check.due(x.best(), -8);
        check.due(x.mark(), -8);
        check.due(x.array(4, 0), -8);
        for (calls += 9; calls < 487; calls++) {
            check.due(x.amount(calls % 12), AMOUNTS[calls % 6]);
        }
        for (int d = 3; d < 24; d++, calls++) {
            check.due(x.pin(0, d, 0, 0, 0, true), 0);
        }
        check.due(calls, 508);
        check.due(x.best(), 4096);
        check.due(x.read(0, 0, 0, 0, 0, 4), 1);
        check.due(x.back(), 7);
        check.due(x.read(0, 0, 0, 0, 0, 4), 0);
    }

    /** How many calls it took. */
    private static int fill(DecisionArrays x) {
        int calls = 0;
        for (int a = 0; a < 20; a++, calls++) {
            check.due(x.array(4, 200), a);
        }
        for (int a = 20; a < 60; a++, calls++) {
            check.due(x.array(a % 9, 0), a);
        }
        for (int d = 0; d < 24; d++, calls += 2) {
            check.due(x.decide(0, d, 0, 0, 0), d);
            check.due(x.span(d, 1, 16, 1), 16);
        }
        for (int r = 0; r < 12; r++, calls++) {
            check.due(x.rule(r % 6, r / 6, 1000, 0, 0), r);
        }
        for (int n = 1; n <= 8; n++, calls++) {
            check.due(x.mark(), n);
        }
        return calls;
    }

    // ---- "No call may ever throw"

    private static void neverThrows() {
        check.promise("no call ever throws, for any arguments in any state");
        DecisionArrays[] objects = {new DecisionArrays(), some(), new DecisionArrays()};
        fill(objects[2]);
        for (DecisionArrays x : objects) {
            for (int a : WILD) {
                for (int i : WILD) {
                    twoWild(x, a, i);
                    for (int n : WILD) {
                        threeWild(x, a, i, n);
                    }
                }
            }
            check.due(x.count(0) <= 60 && x.count(1) <= 4000 && x.count(2) <= 24 && x.count(3) <= 12 ? 1 : 0, 1);
        }
    }

    private static void twoWild(DecisionArrays x, int a, int i) {
        x.array(a, i);
        x.things(a, i);
        x.rows(a, i);
        x.copy(a, i);
        x.about(a, i);
        x.row(a, i);
        x.column(a, i);
        x.widens(a, i);
        x.same(a, i);
        x.choose(a, i);
        x.decision(a, i);
        x.candidateOf(a, i);
        x.deep(a);
        x.hash(a);
        x.amount(a);
        x.count(a);
        x.score();
        x.code();
        if (i == 0) {
            x.mark();
            x.best();
            x.back();
            x.back();
        }
    }

    private static void threeWild(DecisionArrays x, int a, int i, int n) {
        x.setRow(a, i, n);
        x.sort(a, i, n);
        x.grid(a, i, n, i, a, n);
        x.place(a, i, n, i, n);
        x.pin(a, i, n, i, n, n % 2 == 0);
        x.decide(a, i, n, n, i);
        x.read(a, i, n, i, n, n);
        for (int k : WILD) {
            x.move(a, i, k, n, k);
            x.move(a, i, k, 0, n);
        }
        for (long bits : WILD_BITS) {
            x.write(a, i, n, 0, 0, n, bits);
            x.fill(a, i, n, i, bits);
            x.fill(a, i, n, 4, bits);
            x.search(a, bits);
            x.candidate(a, bits);
            x.span(a, bits, n, i);
            x.span(a, n, bits, bits);
            x.rule(i, a, n, bits, bits);
        }
    }
}

/** Promises 24 to 36 with what "Terms" says of DECISIONS, RULES and MARKS: at each bound, one below and one above. */
public final class ChoiceBoundsTest {
    private static final Check check = new Check();
    private static final long MOST = 1000000;

    public static void main(String[] args) {
        twentyFourDecisions();
        decidedAlready();
        whateverBecomesOfRows();
        pinnedStay();
        sixteenCandidates();
        candidatesUnlike();
        candidatesOfClasses();
        spanCounts();
        spanSteps();
        spanEnds();
        spanOfKinds();
        chooseEnds();
        decisionParts();
        candidateEnds();
        twelveRules();
        weights();
        sumBounds();
        sumWraps();
        amountsAtMost();
        unlikePairs();
        risingSteps();
        countedBits();
        changedBits();
        farSteps();
        scoreBounds();
        waysUpToMost();
        waysBeyond();
        bestIsFirst();
        bestOfEachWay();
        bestOnceMore();
        bestOfOnes();
        bestLeavesPinned();
        eightMarks();
        marksAboveOneAnother();
        backLeavesWhatCame();
        backAndPins();
        backAndDecisions();
        countParts();
        check.end();
    }

    private static long at(DecisionArrays x, int a, int i) {
        return x.read(a, i, 0, 0, 0, x.about(a, 0));
    }

    // ---- DECISIONS

    private static void twentyFourDecisions() {
        check.promise("24 decide: DECISIONS, 24 at most");
        DecisionArrays x = new DecisionArrays();
        int a = x.array(4, 200);
        for (int d = 0; d < 24; d++) {
            check.fine(x, x.decide(a, 199 - d, 0, 0, 0), d);
        }
        check.refused(x, x.decide(a, 0, 0, 0, 0), 8);
        check.due(x.count(2), 24);
        check.fine(x, x.decision(23, 1), 176);
        check.refused(x, x.decision(24, 1), 9);
    }

    private static void decidedAlready() {
        check.promise("24 decide: of one that is: that");
        DecisionArrays x = new DecisionArrays();
        x.grid(4, 2, 2, 12, 0, 0);
        for (int d = 0; d < 24; d++) {
            check.fine(x, x.decide(0, d / 12, d % 12, 0, 0), d);
            check.fine(x, x.decide(1 + d / 12, d % 12, 0, 0, 0), d);
        }
        for (int d = 0; d < 24; d++) {
            check.fine(x, x.decide(0, d / 12, d % 12, 0, 0), d);
        }
        x.setRow(0, 1, 1);
        check.fine(x, x.decide(0, 1, 3, 0, 0), 3);
        check.due(x.count(2), 24);
    }

    private static void whateverBecomesOfRows() {
        check.promise("3 a DECISION stands for the element at its place, whatever becomes of ROWS");
        DecisionArrays x = new DecisionArrays();
        x.grid(4, 2, 1, 2, 0, 0);
        x.array(4, 2);
        check.fine(x, x.decide(0, 0, 1, 0, 0), 0);
        x.candidate(0, 5);
        x.setRow(0, 0, 2);
        check.fine(x, x.decision(0, 0), 1);
        check.fine(x, x.choose(0, 0), 0);
        check.due(at(x, 1, 1), 5);
        check.due(at(x, 2, 1), 0);
        check.fine(x, x.decide(0, 0, 1, 0, 0), 1);
        x.setRow(0, 0, -1);
        check.fine(x, x.decision(1, 0), 2);
        check.refused(x, x.decide(0, 0, 1, 0, 0), 3);
    }

    private static void pinnedStay() {
        check.promise("3 PINNED elements: 6, also those that would write what is there");
        DecisionArrays x = new DecisionArrays();
        int a = Make.of(x, 4, 1, 2, 3);
        x.decide(a, 1, 0, 0, 0);
        x.candidate(0, 2);
        x.candidate(0, 9);
        x.pin(a, 1, 0, 0, 0, true);
        check.refused(x, x.write(a, 1, 0, 0, 0, 4, 2), 6);
        check.refused(x, x.write(a, 1, 0, 0, 0, 2, 2), 6);
        check.refused(x, x.fill(a, 1, 2, 4, 2), 6);
        check.refused(x, x.move(a, 1, a, 1, 1), 6);
        check.refused(x, x.move(a, 0, a, 0, 3), 6);
        check.refused(x, x.sort(a, 0, 3), 6);
        check.refused(x, x.sort(a, 1, 2), 6);
        check.refused(x, x.choose(0, 0), 6);
        check.refused(x, x.choose(0, 1), 6);
        check.fine(x, x.best(), 1);
        check.due(at(x, a, 1), 2);
        check.fine(x, x.candidate(0, 10), 3);
        check.fine(x, x.span(0, 11, 12, 1), 5);
        check.fine(x, x.copy(a, 3), 1);
        check.fine(x, x.write(1, 1, 0, 0, 0, 4, 8), 0);
        check.fine(x, x.fill(a, 1, 1, 4, 7), 0);
        check.fine(x, x.sort(a, 1, 1), 0);
        check.fine(x, x.move(a, 0, a, 1, 0), 0);
        x.pin(a, 1, 0, 0, 0, false);
        check.fine(x, x.choose(0, 1), 0);
        check.due(at(x, a, 1), 9);
    }

    private static void sixteenCandidates() {
        check.promise("25 candidate: up to 16 CANDIDATES");
        for (int kind = 1; kind <= 8; kind++) {
            DecisionArrays x = new DecisionArrays();
            x.array(kind, 2);
            x.decide(0, 0, 0, 0, 0);
            x.decide(0, 1, 0, 0, 0);
            for (int c = 0; c < 16; c++) {
                check.fine(x, x.candidate(0, 100 - c), c + 1);
            }
            check.refused(x, x.candidate(0, 50), 8);
            check.refused(x, x.candidate(0, 100), 9);
            check.due(x.decision(0, 2), 16);
            for (int c = 0; c < 16; c++) {
                check.fine(x, x.candidateOf(0, c), 100 - c);
            }
            check.fine(x, x.candidate(1, 50), 1);
        }
    }

    private static void candidatesUnlike() {
        check.promise("3 CANDIDATES: unlike ones; the no-number is none");
        DecisionArrays x = new DecisionArrays();
        x.array(0, 1);
        x.array(6, 1);
        x.array(7, 1);
        for (int a = 0; a < 3; a++) {
            x.decide(a, 0, 0, 0, 0);
        }
        check.fine(x, x.candidate(0, 0), 1);
        check.refused(x, x.candidate(0, 0), 9);
        check.fine(x, x.candidate(0, 1), 2);
        check.refused(x, x.candidate(0, 1), 9);
        check.refused(x, x.candidate(0, 2), 9);
        check.refused(x, x.candidate(0, -1), 9);
        check.fine(x, x.candidate(1, 0), 1);
        check.fine(x, x.candidate(1, Integer.MIN_VALUE), 2);
        check.refused(x, x.candidate(1, Integer.MIN_VALUE), 9);
        check.fine(x, x.candidate(1, 0x7F800000L), 3);
        check.refused(x, x.candidate(1, 0x7F800001L), 9);
        check.refused(x, x.candidate(1, 0x7FC00000L), 9);
        check.fine(x, x.candidate(1, Float.floatToIntBits(Float.NEGATIVE_INFINITY)), 4);
        check.refused(x, x.candidate(1, Float.floatToIntBits(Float.NEGATIVE_INFINITY) + 1), 9);
        check.fine(x, x.candidate(2, Long.MIN_VALUE), 1);
        check.fine(x, x.candidate(2, 0), 2);
        check.fine(x, x.candidate(2, 0x7FF0000000000000L), 3);
        check.refused(x, x.candidate(2, 0x7FF0000000000001L), 9);
        check.refused(x, x.candidate(2, 0x7FF8000000000000L), 9);
        check.refused(x, x.candidate(2, Long.MAX_VALUE), 9);
        check.due(x.decision(1, 2), 4);
        check.due(x.decision(2, 2), 3);
    }

    private static void candidatesOfClasses() {
        check.promise("3 CANDIDATES: a THING must be of the array's CLASS, or null");
        for (int cls = 0; cls <= 6; cls++) {
            DecisionArrays x = new DecisionArrays();
            x.things(cls, 1);
            x.decide(0, 0, 0, 0, 0);
            int offered = 0;
            for (int thing = 0; thing <= 14; thing++) {
                boolean fits = thing == 0 || thing % 7 == cls;
                offered += fits ? 1 : 0;
                check.silent(x, x.candidate(0, thing), fits ? offered : -7, fits ? 0 : 7);
            }
            check.refused(x, x.candidate(0, 1001 + cls), 9);
            check.due(x.decision(0, 2), offered);
        }
        DecisionArrays x = new DecisionArrays();
        x.array(8, 1);
        x.decide(0, 0, 0, 0, 0);
        check.fine(x, x.candidate(0, 0), 1);
        check.fine(x, x.candidate(0, 1), 2);
        check.fine(x, x.candidate(0, 1000), 3);
        check.refused(x, x.candidate(0, 1001), 9);
    }

    private static DecisionArrays oneDecision(int kind) {
        DecisionArrays x = new DecisionArrays();
        x.array(kind, 1);
        x.decide(0, 0, 0, 0, 0);
        return x;
    }

    private static void spanCounts() {
        check.promise("26 span: 16 CANDIDATES, 8 (nothing changes)");
        for (int there = 0; there <= 16; there++) {
            for (int more = 15 - there; more <= 17 - there; more++) {
                DecisionArrays x = oneDecision(4);
                x.span(0, 1, there, 1);
                check.due(x.decision(0, 2), there);
                boolean fits = there + Math.max(more, 0) <= 16;
                check.silent(x, x.span(0, 100, 99 + more, 1), fits ? there + Math.max(more, 0) : -8, fits ? 0 : 8);
                check.due(x.decision(0, 2), fits ? there + Math.max(more, 0) : there);
            }
        }
    }

    private static void spanSteps() {
        check.promise("26 span: low, low + step, .. up to high, those that are not there yet");
        for (int high = 9; high <= 20; high++) {
            DecisionArrays x = oneDecision(5);
            int values = high < 10 ? 0 : (high - 10) / 5 + 1;
            check.fine(x, x.span(0, 10, high, 5), values);
            for (int c = 0; c < values; c++) {
                check.fine(x, x.candidateOf(0, c), 10 + 5 * c);
            }
            check.silent(x, x.candidateOf(0, values), 0, 9);
        }
        DecisionArrays x = oneDecision(4);
        x.candidate(0, 3);
        x.candidate(0, 1);
        check.fine(x, x.span(0, 0, 4, 1), 5);
        long[] due = {3, 1, 0, 2, 4};
        for (int c = 0; c < due.length; c++) {
            check.due(x.candidateOf(0, c), due[c]);
        }
        check.fine(x, x.span(0, 2, 2, 1), 5);
        check.fine(x, x.span(0, 7, 7, Long.MAX_VALUE), 6);
        check.refused(x, x.span(0, 8, 9, 0), 9);
        check.refused(x, x.span(0, 8, 9, -1), 9);
        check.refused(x, x.span(0, 8, 9, Long.MIN_VALUE), 9);
        check.fine(x, x.span(0, -16, 4, 4), 10);
        check.fine(x, x.span(0, -16, 4, 2), 14);
    }

    private static void spanEnds() {
        check.promise("26 span: up to the ends of longs");
        DecisionArrays x = oneDecision(5);
        check.fine(x, x.span(0, Long.MAX_VALUE, Long.MAX_VALUE, 1), 1);
        check.fine(x, x.span(0, Long.MAX_VALUE - 1, Long.MAX_VALUE, 1), 2);
        check.fine(x, x.span(0, Long.MAX_VALUE - 5, Long.MAX_VALUE, 5), 3);
        check.fine(x, x.span(0, Long.MAX_VALUE - 5, Long.MAX_VALUE, 6), 3);
        check.fine(x, x.span(0, Long.MIN_VALUE, Long.MIN_VALUE, 1), 4);
        check.fine(x, x.span(0, Long.MIN_VALUE, Long.MAX_VALUE, Long.MAX_VALUE), 5);
        check.due(x.candidateOf(0, 4), -1);
        check.fine(x, x.span(0, Long.MAX_VALUE, Long.MIN_VALUE, 1), 5);
        check.refused(x, x.span(0, Long.MIN_VALUE, Long.MAX_VALUE, 1), 8);
        check.refused(x, x.span(0, Long.MIN_VALUE, Long.MAX_VALUE, 1L << 60), 8);
        check.due(x.decision(0, 2), 5);
    }

    private static void spanOfKinds() {
        check.promise("26 span: 9, KIND not 1 .. 5, low or high none of it");
        long[][] ends = {{0, 1}, {0, 65535}, {-128, 127}, {-32768, 32767}, {Integer.MIN_VALUE, Integer.MAX_VALUE}};
        for (int kind = 0; kind <= 8; kind++) {
            DecisionArrays x = oneDecision(kind);
            boolean told = kind >= 1 && kind <= 5;
            check.silent(x, x.span(0, 0, 1, 1), told ? 2 : -9, told ? 0 : 9);
            check.silent(x, x.span(0, 1, 0, 1), told ? 2 : -9, told ? 0 : 9);
        }
        for (int kind = 1; kind <= 4; kind++) {
            DecisionArrays x = oneDecision(kind);
            long low = ends[kind][0];
            long high = ends[kind][1];
            check.fine(x, x.span(0, low, high, high - low), 2);
            check.fine(x, x.span(0, low, high, high - low + 1), 2);
            check.refused(x, x.span(0, low - 1, high, high - low), 9);
            check.refused(x, x.span(0, low, high + 1, high - low), 9);
            check.refused(x, x.span(0, high + 1, low, 1), 9);
            check.refused(x, x.span(0, high, low - 1, 1), 9);
            check.due(x.candidateOf(0, 1), high);
        }
    }

    private static void chooseEnds() {
        check.promise("27 choose: the first and the last CANDIDATE, none below or above");
        DecisionArrays x = oneDecision(4);
        check.refused(x, x.choose(0, 0), 9);
        x.span(0, 11, 26, 1);
        for (int c = 0; c < 16; c++) {
            check.fine(x, x.choose(0, c), 0);
            check.due(at(x, 0, 0), 11 + c);
            check.due(x.decision(0, 3), c);
        }
        for (int c : new int[] {Integer.MIN_VALUE, -1, 16, Integer.MAX_VALUE}) {
            check.refused(x, x.choose(0, c), 9);
        }
        for (int d : new int[] {Integer.MIN_VALUE, -1, 1, Integer.MAX_VALUE}) {
            check.refused(x, x.choose(d, 0), 9);
        }
        check.due(at(x, 0, 0), 26);
    }

    private static void decisionParts() {
        check.promise("28 decision: its array, place, CANDIDATES, the one that the element is");
        DecisionArrays x = new DecisionArrays();
        x.array(4, 1);
        int a = x.array(6, 200);
        x.decide(a, 199, 0, 0, 0);
        long[] before = {1, 199, 0, -2};
        for (int what = 0; what <= 3; what++) {
            check.fine(x, x.decision(0, what), before[what]);
        }
        check.refused(x, x.decision(0, 4), 9);
        check.refused(x, x.decision(0, -1), 9);
        x.candidate(0, Integer.MIN_VALUE);
        check.fine(x, x.decision(0, 3), -2);
        x.candidate(0, 0);
        check.fine(x, x.decision(0, 3), 1);
        x.write(a, 199, 0, 0, 0, 6, 0x7FC00000L);
        check.fine(x, x.decision(0, 3), -2);
        x.write(a, 199, 0, 0, 0, 6, Integer.MIN_VALUE);
        check.fine(x, x.decision(0, 3), 0);
        check.fine(x, x.decision(0, 2), 2);
        check.refused(x, x.decision(1, 0), 9);
        check.refused(x, x.decision(-1, 0), 9);
    }

    private static void candidateEnds() {
        check.promise("29 candidateOf: 0 with code 9");
        DecisionArrays x = oneDecision(5);
        check.silent(x, x.candidateOf(0, 0), 0, 9);
        x.candidate(0, Long.MIN_VALUE);
        x.candidate(0, Long.MAX_VALUE);
        check.fine(x, x.candidateOf(0, 0), Long.MIN_VALUE);
        check.fine(x, x.candidateOf(0, 1), Long.MAX_VALUE);
        for (int c : new int[] {Integer.MIN_VALUE, -1, 2, 15, 16, Integer.MAX_VALUE}) {
            check.silent(x, x.candidateOf(0, c), 0, 9);
        }
        for (int d : new int[] {Integer.MIN_VALUE, -1, 1, Integer.MAX_VALUE}) {
            check.silent(x, x.candidateOf(d, 0), 0, 9);
        }
    }

    // ---- RULES

    private static void twelveRules() {
        check.promise("30 rule: RULES, 12 at most; of a sort 0 .. 5");
        DecisionArrays x = new DecisionArrays();
        int a = Make.of(x, 4, 1, 2);
        check.refused(x, x.rule(-1, a, 1, 0, 0), 9);
        check.refused(x, x.rule(6, a, 1, 0, 0), 9);
        for (int r = 0; r < 12; r++) {
            check.fine(x, x.rule(r % 6, a, 1, 0, 0), r);
        }
        check.refused(x, x.rule(0, a, 1, 0, 0), 8);
        check.due(x.count(3), 12);
        check.fine(x, x.amount(11), 1);
        check.silent(x, x.amount(12), 0, 9);
        check.silent(x, x.amount(-1), 0, 9);
        check.silent(x, x.amount(Integer.MAX_VALUE), 0, 9);
        check.silent(x, x.amount(Integer.MIN_VALUE), 0, 9);
    }

    private static void weights() {
        check.promise("4 the rule's WEIGHT (- 1000 .. 1000)");
        for (int weight : new int[] {Integer.MIN_VALUE, -1001, -1000, -1, 0, 1, 1000, 1001, Integer.MAX_VALUE}) {
            DecisionArrays x = new DecisionArrays();
            int a = Make.of(x, 4, 7);
            boolean told = weight >= -1000 && weight <= 1000;
            check.silent(x, x.rule(0, a, weight, 0, 0), told ? 0 : -9, told ? 0 : 9);
            check.due(x.score(), told ? 7L * weight : 0);
            check.due(x.amount(0), told ? 7 : 0);
        }
    }

    private static long amount(DecisionArrays x, int sort, int a, long low, long high) {
        long amount = x.amount(x.rule(sort, a, 1, low, high));
        check.due(x.code(), 0);
        return amount;
    }

    private static void sumBounds() {
        check.promise("4 SUM: below a: a less it; else above b: it less b; else 0");
        for (int sum = 3; sum <= 9; sum++) {
            DecisionArrays x = new DecisionArrays();
            int a = Make.of(x, 4, sum, 10, -10);
            check.due(amount(x, 0, a, 5, 7), sum < 5 ? 5 - sum : sum > 7 ? sum - 7 : 0);
            check.due(amount(x, 0, a, 6, 6), Math.abs(6 - sum));
            check.due(amount(x, 0, a, 7, 5), sum < 7 ? 7 - sum : sum - 5);
        }
        DecisionArrays x = new DecisionArrays();
        int none = x.array(4, 0);
        check.due(amount(x, 0, none, 0, 0), 0);
        check.due(amount(x, 0, none, 1, 1), 1);
        check.due(amount(x, 0, none, -1, -1), 1);
    }

    private static void sumWraps() {
        check.promise("4 SUM: of 64 bits, wrapping; also where 64 bits are too few");
        DecisionArrays x = new DecisionArrays();
        int top = Make.of(x, 5, Long.MAX_VALUE, 1);
        check.due(amount(x, 0, top, Long.MIN_VALUE, Long.MIN_VALUE), 0);
        check.due(amount(x, 0, top, Long.MIN_VALUE + 1, 0), 1);
        check.due(amount(x, 0, top, Long.MAX_VALUE, 0), MOST);
        int low = Make.of(x, 5, Long.MIN_VALUE, -1);
        check.due(amount(x, 0, low, 0, Long.MAX_VALUE), 0);
        check.due(amount(x, 0, low, 0, Long.MAX_VALUE - 1), 1);
        check.due(amount(x, 0, low, Long.MIN_VALUE, Long.MIN_VALUE), MOST);
        check.due(amount(x, 0, low, 0, -1), MOST);
        int reals = Make.doubles(x, 1e300, 1e300);
        check.due(amount(x, 0, reals, -2, -2), 0);
    }

    private static void amountsAtMost() {
        check.promise("4 AMOUNTS are at most 1000000");
        for (long off = MOST - 1; off <= MOST + 1; off++) {
            DecisionArrays x = new DecisionArrays();
            int a = Make.of(x, 4, 5);
            check.due(amount(x, 0, a, 5 + off, 5 + off), Math.min(off, MOST));
            check.due(amount(x, 0, a, 5 - off, 5 - off), Math.min(off, MOST));
            check.due(amount(x, 3, a, 5, 1 + off), Math.min(off, MOST));
            check.due(amount(x, 3, a, 5, 1 - off), Math.min(off, MOST));
            check.due(amount(x, 5, Make.of(x, 4, 0, off), 0, 0), Math.min(off, MOST));
            check.due(amount(x, 5, Make.of(x, 4, 0, -off), 0, 0), Math.min(off, MOST));
        }
        long[] ends = {Long.MIN_VALUE, Long.MIN_VALUE + 1, -1, 0, 1, Long.MAX_VALUE - 1, Long.MAX_VALUE};
        for (long x1 : ends) {
            for (long x2 : ends) {
                DecisionArrays x = new DecisionArrays();
                java.math.BigInteger step = java.math.BigInteger.valueOf(x1).subtract(java.math.BigInteger.valueOf(x2)).abs();
                long due = step.min(java.math.BigInteger.valueOf(MOST)).longValue();
                check.due(amount(x, 5, Make.of(x, 5, x1, x2), 0, 0), due);
                check.due(amount(x, 0, Make.of(x, 5, x1), x2, x2), due);
            }
        }
    }

    private static void unlikePairs() {
        check.promise("4 UNLIKE: how many pairs of elements are of the same value");
        for (int n = 0; n <= 5; n++) {
            DecisionArrays x = new DecisionArrays();
            check.due(amount(x, 1, x.array(4, n), 0, 0), n * (n - 1) / 2);
        }
        DecisionArrays x = new DecisionArrays();
        check.due(amount(x, 1, x.array(4, 200), 0, 0), 19900);
        check.due(amount(x, 1, Make.floats(x, 0f, -0f), 0, 0), 1);
        check.due(amount(x, 1, Make.doubles(x, -0.0, 0.0, -0.0), 0, 0), 3);
        check.due(amount(x, 1, Make.floats(x, Float.NaN, Float.NaN), 0, 0), 0);
        check.due(amount(x, 1, Make.doubles(x, Double.NaN, Double.NaN, 1, 1), 0, 0), 1);
        check.due(amount(x, 1, Make.doubles(x, Double.MIN_VALUE, -Double.MIN_VALUE, 0), 0, 0), 0);
        check.due(amount(x, 1, Make.of(x, 5, -1, -1, 0), 0, 0), 1);
        check.due(amount(x, 1, Make.of(x, 2, -1, 0, 0, -1), 0, 0), 2);
        check.due(amount(x, 1, Make.of(x, 8, 0, 0, 1000, 1000), 0, 0), 2);
        check.due(amount(x, 1, Make.of(x, 0, 0, 1, 1, 1), 0, 0), 3);
        check.due(amount(x, 1, Make.floats(x, 1f, Float.POSITIVE_INFINITY, Float.POSITIVE_INFINITY), 0, 0), 1);
    }

    private static void risingSteps() {
        check.promise("4 RISING: how many elements are below the one before, in order");
        DecisionArrays x = new DecisionArrays();
        check.due(amount(x, 2, x.array(4, 0), 0, 0), 0);
        check.due(amount(x, 2, Make.of(x, 4, 5), 0, 0), 0);
        check.due(amount(x, 2, Make.of(x, 4, 5, 5), 0, 0), 0);
        check.due(amount(x, 2, Make.of(x, 4, 5, 6), 0, 0), 0);
        check.due(amount(x, 2, Make.of(x, 4, 5, 4), 0, 0), 1);
        check.due(amount(x, 2, Make.floats(x, 0f, -0f, 0f), 0, 0), 1);
        check.due(amount(x, 2, Make.doubles(x, Double.NaN, Double.POSITIVE_INFINITY, Double.NaN), 0, 0), 1);
        check.due(amount(x, 2, Make.doubles(x, 1.25, 1.0), 0, 0), 1);
        check.due(amount(x, 2, Make.of(x, 5, Long.MIN_VALUE, Long.MAX_VALUE, Long.MIN_VALUE), 0, 0), 1);
        check.due(amount(x, 2, Make.of(x, 0, 1, 0), 0, 0), 1);
    }

    private static void countedBits() {
        check.promise("4 COUNT: how far from b is how many elements are of BITS a (bit by bit)");
        for (int b = -1; b <= 4; b++) {
            DecisionArrays x = new DecisionArrays();
            int a = Make.of(x, 4, 7, 8, 7, 9);
            check.due(amount(x, 3, a, 7, b), Math.abs(2 - b));
            check.due(amount(x, 3, a, 6, b), Math.abs(b));
            check.due(amount(x, 3, x.array(4, 0), 0, b), Math.abs(b));
        }
        DecisionArrays x = new DecisionArrays();
        int floats = Make.floats(x, 0f, -0f, Float.NaN, 0f);
        check.due(amount(x, 3, floats, 0, 0), 2);
        check.due(amount(x, 3, floats, Integer.MIN_VALUE, 0), 1);
        check.due(amount(x, 3, floats, 0x7FC00000L, 0), 1);
        check.due(amount(x, 3, x.array(4, 200), 0, 0), 200);
        check.due(amount(x, 3, x.array(4, 2), 0, Long.MAX_VALUE), MOST);
        check.due(amount(x, 3, x.array(4, 2), 0, Long.MIN_VALUE), MOST);
        check.due(amount(x, 3, x.things(1, 2), 2, 0), 0);
    }

    private static void changedBits() {
        check.promise("4 CHANGES: how many elements are of other BITS than the one before");
        DecisionArrays x = new DecisionArrays();
        check.due(amount(x, 4, x.array(4, 0), 0, 0), 0);
        check.due(amount(x, 4, Make.of(x, 4, 5), 0, 0), 0);
        check.due(amount(x, 4, Make.of(x, 4, 5, 5), 0, 0), 0);
        check.due(amount(x, 4, Make.of(x, 4, 5, 4, 5), 0, 0), 2);
        check.due(amount(x, 4, Make.floats(x, 0f, -0f), 0, 0), 1);
        check.due(amount(x, 4, Make.doubles(x, Double.NaN, Double.NaN), 0, 0), 0);
    }

    private static void farSteps() {
        check.promise("4 FAR: the greatest step between two elements side by side");
        DecisionArrays x = new DecisionArrays();
        check.due(amount(x, 5, x.array(4, 0), 0, 0), 0);
        check.due(amount(x, 5, Make.of(x, 4, 500), 0, 0), 0);
        check.due(amount(x, 5, Make.of(x, 4, 5, 5), 0, 0), 0);
        check.due(amount(x, 5, Make.of(x, 4, 5, 6, 4), 0, 0), 2);
        check.due(amount(x, 5, Make.of(x, 4, 1, 9, 1), 0, 0), 8);
        check.due(amount(x, 5, Make.doubles(x, 0.9, -0.9), 0, 0), 0);
        check.due(amount(x, 5, Make.doubles(x, 1.9, -1.9), 0, 0), 2);
        check.due(amount(x, 5, Make.doubles(x, Double.NaN, 3), 0, 0), 3);
        check.due(amount(x, 5, Make.floats(x, Float.NEGATIVE_INFINITY, Float.POSITIVE_INFINITY), 0, 0), MOST);
        check.due(amount(x, 5, Make.of(x, 8, 1000, 0, 5), 0, 0), 1000);
        check.due(amount(x, 5, Make.of(x, 1, 65535, 0), 0, 0), 65535);
        check.due(amount(x, 5, Make.of(x, 2, -128, 127), 0, 0), 255);
    }

    private static void scoreBounds() {
        check.promise("32 score: the sum of all AMOUNTS times their WEIGHTS (of 64 bits)");
        for (int weight : new int[] {-1000, 1000}) {
            DecisionArrays x = new DecisionArrays();
            int a = x.array(4, 0);
            check.due(x.score(), 0);
            for (int r = 1; r <= 12; r++) {
                x.rule(0, a, weight, Long.MAX_VALUE, Long.MAX_VALUE);
                check.due(x.score(), weight * MOST * r);
            }
        }
        DecisionArrays x = new DecisionArrays();
        int a = Make.of(x, 4, 3, 1);
        x.rule(0, a, 5, 0, 0);
        x.rule(2, a, -7, 0, 0);
        x.rule(5, a, 0, 0, 0);
        check.due(x.score(), 5 * 4 - 7);
    }

    // ---- THE BEST CHOICE

    private static DecisionArrays withWays(int... sizes) {
        DecisionArrays x = new DecisionArrays();
        int a = x.array(4, 24);
        for (int d = 0; d < sizes.length; d++) {
            x.decide(a, d, 0, 0, 0);
            x.span(d, 1, sizes[d], 1);
        }
        x.rule(0, a, 1, 1000, 1000);
        return x;
    }

    private static void waysUpToMost() {
        check.promise("33 best: how many ways there are, 5000 and fewer");
        int[][] sizes = {{}, {0}, {1}, {16}, {0, 2, 0, 3}, {16, 16, 16}, {16, 8, 3, 13}, {7, 7, 6, 16}, {5, 10, 10, 10}};
        for (int[] each : sizes) {
            int ways = 1;
            for (int size : each) {
                ways *= Math.max(size, 1);
            }
            DecisionArrays x = withWays(each);
            check.fine(x, x.count(5), ways);
            check.fine(x, x.best(), ways);
            for (int d = 0; d < each.length; d++) {
                check.due(at(x, 0, d), each[d]);
            }
        }
    }

    private static void waysBeyond() {
        check.promise("33 best: 8, more than 5000 (nothing is made); 36 count: 5001 if there are more");
        int[][] sizes = {{5, 7, 11, 13}, {16, 16, 16, 2}, {16, 16, 16, 16, 16, 16, 16, 16}, {3, 3, 3, 3, 3, 3, 3, 3},
            {16, 16, 16, 16, 16, 16, 16, 16, 16, 16, 16, 16, 16, 16, 16, 16, 16, 16, 16, 16, 16, 16, 16, 16}};
        for (int[] each : sizes) {
            DecisionArrays x = withWays(each);
            check.fine(x, x.count(5), 5001);
            check.refused(x, x.best(), 8);
            for (int d = 0; d < each.length; d++) {
                check.due(at(x, 0, d), 0);
            }
            for (int d = 0; d < each.length; d++) {
                x.pin(0, d, 0, 0, 0, d > 0);
            }
            check.fine(x, x.count(5), each[0]);
            check.fine(x, x.best(), each[0]);
            check.due(at(x, 0, 0), each[0]);
            check.due(at(x, 0, 1), 0);
        }
    }

    private static void bestIsFirst() {
        check.promise("33 best: of several the first, the last DECISION changing fastest");
        DecisionArrays x = new DecisionArrays();
        int a = x.array(4, 3);
        x.decide(a, 2, 0, 0, 0);
        x.decide(a, 0, 0, 0, 0);
        x.decide(a, 1, 0, 0, 0);
        for (int d = 0; d < 3; d++) {
            x.candidate(d, 2);
            x.candidate(d, 1);
            x.candidate(d, 0);
        }
        check.fine(x, x.best(), 27);
        for (int i = 0; i < 3; i++) {
            check.due(at(x, a, i), 2);
        }
        x.rule(0, a, 1, 3, 3);
        check.fine(x, x.best(), 27);
        check.due(at(x, a, 2), 2);
        check.due(at(x, a, 0), 1);
        check.due(at(x, a, 1), 0);
        check.due(x.score(), 0);
        x.rule(0, a, 1, 9, 9);
        x.rule(0, a, 1, -9, -9);
        x.write(a, 0, 0, 0, 0, 4, 77);
        check.fine(x, x.best(), 27);
        check.due(at(x, a, 2), 2);
        check.due(at(x, a, 0), 1);
        check.due(at(x, a, 1), 0);
    }

    /** Three arrays of one element each: each way in turn is the only one that no RULE finds fault with. */
    private static void bestOfEachWay() {
        check.promise("33 best: of all ways, whichever it is");
        for (int way = 0; way < 24; way++) {
            int[] wanted = {way / 12, way / 4 % 3, way % 4};
            DecisionArrays x = new DecisionArrays();
            for (int a = 0; a < 3; a++) {
                x.array(4, 1);
                x.decide(a, 0, 0, 0, 0);
                x.span(a, 0, 1 + a, 1);
                x.rule(3, a, 1, wanted[a], 1);
            }
            check.fine(x, x.best(), 24);
            check.due(x.score(), 0);
            for (int a = 0; a < 3; a++) {
                check.due(at(x, a, 0), wanted[a]);
            }
        }
    }

    private static void bestOnceMore() {
        check.promise("33 best: what an earlier one chose does not count");
        DecisionArrays x = new DecisionArrays();
        int a = x.array(4, 2);
        Make.decisions(x, a, 2);
        x.span(0, 1, 3, 1);
        x.span(1, 1, 3, 1);
        x.rule(0, a, 1, 6, 6);
        check.fine(x, x.best(), 9);
        check.due(at(x, a, 0), 3);
        x.rule(0, a, 1, 0, 0);
        check.fine(x, x.best(), 9);
        check.due(at(x, a, 0), 1);
        check.due(at(x, a, 1), 1);
        x.candidate(1, 4);
        x.rule(0, a, 1, 7, 7);
        check.fine(x, x.best(), 12);
        check.due(at(x, a, 0), 2);
        check.due(at(x, a, 1), 4);
    }

    private static void bestOfOnes() {
        check.promise("33 best: one CANDIDATE, or none");
        DecisionArrays x = new DecisionArrays();
        int a = Make.of(x, 4, 5, 6);
        check.fine(x, x.best(), 1);
        x.decide(a, 0, 0, 0, 0);
        x.decide(a, 1, 0, 0, 0);
        check.fine(x, x.best(), 1);
        check.due(at(x, a, 0), 5);
        x.candidate(0, 9);
        check.fine(x, x.count(5), 1);
        check.due(at(x, a, 0), 5);
        check.fine(x, x.best(), 1);
        check.due(at(x, a, 0), 9);
        check.due(at(x, a, 1), 6);
    }

    private static void bestLeavesPinned() {
        check.promise("33 best: of a PINNED one what is there");
        DecisionArrays x = new DecisionArrays();
        int a = Make.of(x, 4, 5, 6);
        x.decide(a, 0, 0, 0, 0);
        x.decide(a, 1, 0, 0, 0);
        x.span(0, 1, 3, 1);
        x.span(1, 1, 3, 1);
        x.rule(0, a, 1, 7, 7);
        x.pin(a, 1, 0, 0, 0, true);
        check.fine(x, x.best(), 3);
        check.due(at(x, a, 0), 1);
        check.due(at(x, a, 1), 6);
        check.due(x.score(), 0);
        x.pin(a, 1, 0, 0, 0, false);
        check.fine(x, x.best(), 9);
        check.due(at(x, a, 0), 3);
        check.due(at(x, a, 1), 3);
        check.due(x.score(), 1);
    }

    // ---- MARKS

    private static void eightMarks() {
        check.promise("34 mark: up to 8; 35 back: 9, there is none");
        DecisionArrays x = new DecisionArrays();
        check.refused(x, x.back(), 9);
        for (int n = 1; n <= 8; n++) {
            check.fine(x, x.mark(), n);
        }
        check.refused(x, x.mark(), 8);
        check.fine(x, x.count(4), 8);
        check.fine(x, x.back(), 7);
        check.fine(x, x.mark(), 8);
        check.refused(x, x.mark(), 8);
        for (int n = 7; n >= 0; n--) {
            check.fine(x, x.back(), n);
        }
        check.refused(x, x.back(), 9);
        check.fine(x, x.count(4), 0);
        check.fine(x, x.mark(), 1);
    }

    private static void marksAboveOneAnother() {
        check.promise("5 MARKS, one above the other; a refused one changes none of them");
        DecisionArrays x = new DecisionArrays();
        int a = x.array(5, 1);
        for (int n = 1; n <= 8; n++) {
            x.write(a, 0, 0, 0, 0, 5, n);
            x.mark();
        }
        x.write(a, 0, 0, 0, 0, 5, 99);
        check.refused(x, x.mark(), 8);
        for (int n = 8; n >= 5; n--) {
            check.fine(x, x.back(), n - 1);
            check.due(at(x, a, 0), n);
        }
        x.write(a, 0, 0, 0, 0, 5, 55);
        check.fine(x, x.mark(), 5);
        x.write(a, 0, 0, 0, 0, 5, 66);
        check.fine(x, x.back(), 4);
        check.due(at(x, a, 0), 55);
        for (int n = 4; n >= 1; n--) {
            check.fine(x, x.back(), n - 1);
            check.due(at(x, a, 0), n);
        }
        x.write(a, 0, 0, 0, 0, 5, 77);
        check.refused(x, x.back(), 9);
        check.due(at(x, a, 0), 77);
    }

    private static void backLeavesWhatCame() {
        check.promise("5 arrays, DECISIONS, RULES that came since stay; elements of arrays that came since as well");
        DecisionArrays x = new DecisionArrays();
        x.mark();
        int a = Make.of(x, 4, 1, 2);
        x.mark();
        int rows = x.rows(a, 2);
        x.setRow(rows, 1, a);
        int b = Make.of(x, 4, 3, 4);
        x.pin(b, 0, 0, 0, 0, true);
        x.write(a, 0, 0, 0, 0, 4, 9);
        x.decide(a, 0, 0, 0, 0);
        x.candidate(0, 9);
        x.rule(0, a, 1, 0, 0);
        check.fine(x, x.back(), 1);
        check.due(at(x, a, 0), 1);
        check.due(at(x, b, 1), 4);
        check.due(x.about(b, 5), 1);
        check.due(x.row(rows, 1), a);
        long[] counts = {3, 6, 1, 1, 1, 1};
        for (int what = 0; what <= 5; what++) {
            check.fine(x, x.count(what), counts[what]);
        }
        check.due(x.decision(0, 2), 1);
        check.due(x.score(), 3);
        x.write(a, 0, 0, 0, 0, 4, 9);
        check.fine(x, x.back(), 0);
        check.due(at(x, a, 0), 9);
        check.due(x.row(rows, 1), a);
    }

    private static void backAndPins() {
        check.promise("5 back() makes it so again, also PINS, also PINNED elements and ROWS");
        DecisionArrays x = new DecisionArrays();
        int a = Make.of(x, 4, 1, 2, 3, 4);
        int rows = x.rows(a, 2);
        x.setRow(rows, 0, a);
        x.pin(a, 0, 0, 0, 0, true);
        x.pin(a, 1, 0, 0, 0, true);
        String before = Seen.of(x);
        x.mark();
        x.pin(a, 0, 0, 0, 0, false);
        x.fill(a, 2, 4, 4, 9);
        x.write(a, 0, 0, 0, 0, 4, 8);
        x.pin(a, 2, 0, 0, 0, true);
        x.pin(a, 0, 0, 0, 0, true);
        x.setRow(rows, 0, -1);
        x.setRow(rows, 1, a);
        check.fine(x, x.back(), 0);
        check.alike(Seen.of(x), before);
    }

    private static void backAndDecisions() {
        check.promise("5 back() keeps CANDIDATES that came since, and undoes choices");
        DecisionArrays x = oneDecision(4);
        x.span(0, 5, 6, 1);
        x.mark();
        x.candidate(0, 7);
        x.rule(0, 0, 1, 7, 7);
        check.fine(x, x.best(), 3);
        check.due(at(x, 0, 0), 7);
        check.fine(x, x.back(), 0);
        check.due(at(x, 0, 0), 0);
        check.fine(x, x.decision(0, 2), 3);
        check.fine(x, x.decision(0, 3), -2);
        check.due(x.score(), 7);
    }

    private static void countParts() {
        check.promise("36 count: arrays, elements, DECISIONS, RULES, MARKS, ways");
        DecisionArrays x = new DecisionArrays();
        x.grid(4, 2, 2, 3, 0, 0);
        x.decide(1, 0, 0, 0, 0);
        x.decide(1, 1, 0, 0, 0);
        x.span(0, 1, 4, 1);
        x.span(1, 1, 5, 1);
        x.rule(0, 1, 1, 0, 0);
        x.mark();
        x.mark();
        long[] due = {3, 8, 2, 1, 2, 20};
        for (int what = 0; what <= 5; what++) {
            check.fine(x, x.count(what), due[what]);
        }
        for (int what : new int[] {Integer.MIN_VALUE, -1, 6, Integer.MAX_VALUE}) {
            check.refused(x, x.count(what), 9);
        }
    }
}

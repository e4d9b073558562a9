/** Promises 24 to 29. */
public final class DecisionsTest {
    private static final Check check = new Check();

    public static void main(String[] args) {
        decide();
        candidate();
        candidateOfKinds();
        span();
        spanBounds();
        choose();
        decision();
        candidateOf();
        check.end();
    }

    private static void decide() {
        check.promise("24 decide");
        DecisionArrays x = new DecisionArrays();
        x.array(4, 30);
        x.rows(0, 2);
        x.setRow(1, 1, 0);
        check.fine(x, x.decide(1, 1, 3, 0, 0), 0);
        check.fine(x, x.decide(0, 3, 9, 9, 9), 0);
        check.fine(x, x.decide(0, 4, 0, 0, 0), 1);
        check.fine(x, x.decide(1, 1, 4, 0, 0), 1);
        check.refused(x, x.decide(2, 0, 0, 0, 0), 5);
        check.refused(x, x.decide(0, 30, 0, 0, 0), 2);
        check.refused(x, x.decide(1, 0, 0, 0, 0), 3);
        check.refused(x, x.decide(1, 2, 0, 0, 0), 2);
        check.due(x.count(2), 2);
        x.setRow(1, 1, -1);
        check.due(x.decision(0, 0), 0);
        check.due(x.decision(0, 1), 3);
        for (int i = 5; i < 27; i++) {
            check.fine(x, x.decide(0, i, 0, 0, 0), i - 3);
        }
        check.refused(x, x.decide(0, 0, 0, 0, 0), 8);
        check.refused(x, x.decide(0, 30, 0, 0, 0), 2);
        check.fine(x, x.decide(0, 26, 0, 0, 0), 23);
        check.due(x.count(2), 24);
    }

    private static void candidate() {
        check.promise("25 candidate");
        DecisionArrays x = new DecisionArrays();
        x.array(2, 1);
        x.things(3, 1);
        x.decide(0, 0, 0, 0, 0);
        x.decide(1, 0, 0, 0, 0);
        check.fine(x, x.candidate(0, -128), 1);
        check.fine(x, x.candidate(0, 127), 2);
        check.refused(x, x.candidate(0, 128), 9);
        check.refused(x, x.candidate(0, 127), 9);
        check.refused(x, x.candidate(2, 0), 9);
        check.refused(x, x.candidate(-1, 0), 9);
        for (int i = 3; i <= 16; i++) {
            check.fine(x, x.candidate(0, i), i);
        }
        check.refused(x, x.candidate(0, 50), 8);
        check.refused(x, x.candidate(0, 16), 9);
        check.due(x.decision(0, 2), 16);
        check.due(x.read(0, 0, 0, 0, 0, 2), 0);
        check.fine(x, x.candidate(1, 0), 1);
        check.fine(x, x.candidate(1, 3), 2);
        check.refused(x, x.candidate(1, 4), 7);
        check.refused(x, x.candidate(1, 1001), 9);
        for (int i = 1; i <= 14; i++) {
            check.fine(x, x.candidate(1, 3 + 7 * i), 2 + i);
        }
        check.refused(x, x.candidate(1, 4), 7);
        check.refused(x, x.candidate(1, 997), 8);
        x.pin(0, 0, 0, 0, 0, true);
        x.decide(0, 0, 0, 0, 0);
        check.refused(x, x.candidate(0, 50), 8);
    }

    private static void candidateOfKinds() {
        check.promise("25 candidate, no-numbers");
        DecisionArrays x = new DecisionArrays();
        x.array(6, 1);
        x.array(7, 1);
        x.array(0, 1);
        for (int a = 0; a < 3; a++) {
            x.decide(a, 0, 0, 0, 0);
        }
        check.refused(x, x.candidate(0, 0x7FC00000L), 9);
        check.refused(x, x.candidate(0, 0x7F800001L), 9);
        check.refused(x, x.candidate(0, -1), 9);
        check.refused(x, x.candidate(0, 1L << 31), 9);
        check.fine(x, x.candidate(0, 0x7F800000L), 1);
        check.fine(x, x.candidate(0, 0), 2);
        check.fine(x, x.candidate(0, Integer.MIN_VALUE), 3);
        check.refused(x, x.candidate(1, 0x7FF8000000000000L), 9);
        check.refused(x, x.candidate(1, -1), 9);
        check.fine(x, x.candidate(1, 0xFFF0000000000000L), 1);
        check.fine(x, x.candidate(1, 0x7FC00000L), 2);
        check.refused(x, x.candidate(2, 2), 9);
        check.fine(x, x.candidate(2, 1), 1);
    }

    private static void span() {
        check.promise("26 span");
        DecisionArrays x = new DecisionArrays();
        x.array(4, 1);
        x.decide(0, 0, 0, 0, 0);
        check.fine(x, x.candidate(0, 7), 1);
        check.fine(x, x.span(0, 1, 10, 3), 4);
        long[] due = {7, 1, 4, 10};
        for (int c = 0; c < due.length; c++) {
            check.due(x.candidateOf(0, c), due[c]);
        }
        check.fine(x, x.span(0, 1, 10, 3), 4);
        check.fine(x, x.span(0, 5, 4, 1), 4);
        check.fine(x, x.span(0, 2, 3, Long.MAX_VALUE), 5);
        check.refused(x, x.span(1, 0, 1, 1), 9);
        check.refused(x, x.span(-1, 0, 1, 1), 9);
        check.refused(x, x.span(0, 0, 1, 0), 9);
        check.refused(x, x.span(0, 0, 1, -1), 9);
        check.refused(x, x.span(0, 0, 1L << 31, 1), 9);
        check.refused(x, x.span(0, -1L << 32, 0, 1), 9);
        check.refused(x, x.span(0, 11, 22, 1), 8);
        check.refused(x, x.span(0, Integer.MIN_VALUE, Integer.MAX_VALUE, 1), 8);
        check.due(x.decision(0, 2), 5);
        check.fine(x, x.span(0, 0, 12, 1), 13);
        check.due(x.candidateOf(0, 5), 0);
        check.due(x.candidateOf(0, 12), 12);
        check.fine(x, x.span(0, 0, 15, 1), 16);
        check.fine(x, x.span(0, 0, 15, 1), 16);
        check.refused(x, x.span(0, 0, 16, 1), 8);
    }

    private static void spanBounds() {
        check.promise("26 span, kinds and ends");
        for (int kind = 0; kind <= 8; kind++) {
            DecisionArrays x = new DecisionArrays();
            x.array(kind, 1);
            x.decide(0, 0, 0, 0, 0);
            if (kind >= 1 && kind <= 5) {
                check.fine(x, x.span(0, 0, 1, 1), 2);
            } else {
                check.refused(x, x.span(0, 0, 1, 1), 9);
            }
        }
        DecisionArrays x = new DecisionArrays();
        x.array(5, 2);
        x.decide(0, 0, 0, 0, 0);
        x.decide(0, 1, 0, 0, 0);
        check.fine(x, x.span(0, Long.MAX_VALUE - 2, Long.MAX_VALUE, 1), 3);
        check.fine(x, x.span(0, Long.MIN_VALUE, Long.MAX_VALUE, Long.MAX_VALUE), 5);
        check.due(x.candidateOf(0, 3), Long.MIN_VALUE);
        check.due(x.candidateOf(0, 4), -1);
        check.fine(x, x.span(1, Long.MIN_VALUE, Long.MIN_VALUE + 1, Long.MAX_VALUE), 1);
    }

    private static void choose() {
        check.promise("27 choose");
        DecisionArrays x = new DecisionArrays();
        x.array(4, 2);
        x.decide(0, 1, 0, 0, 0);
        x.span(0, 5, 7, 1);
        check.fine(x, x.choose(0, 2), 0);
        check.due(x.read(0, 1, 0, 0, 0, 4), 7);
        check.due(x.read(0, 0, 0, 0, 0, 4), 0);
        check.refused(x, x.choose(0, 3), 9);
        check.refused(x, x.choose(0, -1), 9);
        check.refused(x, x.choose(1, 0), 9);
        check.refused(x, x.choose(-1, 0), 9);
        x.pin(0, 1, 0, 0, 0, true);
        check.refused(x, x.choose(0, 2), 6);
        check.refused(x, x.choose(0, 0), 6);
        check.refused(x, x.choose(0, 3), 9);
        check.due(x.read(0, 1, 0, 0, 0, 4), 7);
        x.pin(0, 1, 0, 0, 0, false);
        check.fine(x, x.choose(0, 0), 0);
        check.due(x.read(0, 1, 0, 0, 0, 4), 5);
    }

    private static void decision() {
        check.promise("28 decision");
        DecisionArrays x = new DecisionArrays();
        x.array(4, 2);
        x.array(6, 3);
        x.decide(1, 2, 0, 0, 0);
        check.fine(x, x.decision(0, 0), 1);
        check.fine(x, x.decision(0, 1), 2);
        check.fine(x, x.decision(0, 2), 0);
        check.fine(x, x.decision(0, 3), -2);
        x.candidate(0, Integer.MIN_VALUE);
        check.fine(x, x.decision(0, 3), -2);
        x.candidate(0, 0);
        check.fine(x, x.decision(0, 2), 2);
        check.fine(x, x.decision(0, 3), 1);
        x.write(1, 2, 0, 0, 0, 6, Integer.MIN_VALUE);
        check.fine(x, x.decision(0, 3), 0);
        x.write(1, 2, 0, 0, 0, 4, 5);
        check.fine(x, x.decision(0, 3), -2);
        check.refused(x, x.decision(0, 4), 9);
        check.refused(x, x.decision(0, -1), 9);
        check.refused(x, x.decision(1, 0), 9);
        check.refused(x, x.decision(-1, 0), 9);
    }

    private static void candidateOf() {
        check.promise("29 candidateOf");
        DecisionArrays x = new DecisionArrays();
        x.array(7, 1);
        x.decide(0, 0, 0, 0, 0);
        x.candidate(0, Long.MIN_VALUE);
        x.candidate(0, 5);
        check.fine(x, x.candidateOf(0, 0), Long.MIN_VALUE);
        check.fine(x, x.candidateOf(0, 1), 5);
        check.silent(x, x.candidateOf(0, 2), 0, 9);
        check.silent(x, x.candidateOf(0, -1), 0, 9);
        check.silent(x, x.candidateOf(1, 0), 0, 9);
        check.silent(x, x.candidateOf(-1, 0), 0, 9);
    }
}

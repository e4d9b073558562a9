/** Promises 34 to 36. */
public final class MarksTest {
    private static final Check check = new Check();

    public static void main(String[] args) {
        markAndBack();
        whatCameSince();
        rowsAndPins();
        levels();
        count();
        check.end();
    }

    private static void markAndBack() {
        check.promise("34 mark, 35 back");
        DecisionArrays x = new DecisionArrays();
        check.refused(x, x.back(), 9);
        x.array(4, 2);
        for (int n = 1; n <= 8; n++) {
            x.write(0, 0, 0, 0, 0, 4, n);
            check.fine(x, x.mark(), n);
        }
        check.refused(x, x.mark(), 8);
        check.due(x.count(4), 8);
        x.write(0, 0, 0, 0, 0, 4, 99);
        for (int n = 8; n >= 1; n--) {
            check.fine(x, x.back(), n - 1);
            check.due(x.read(0, 0, 0, 0, 0, 4), n);
        }
        check.refused(x, x.back(), 9);
        check.due(x.read(0, 0, 0, 0, 0, 4), 1);
        check.fine(x, x.mark(), 1);
    }

    private static void whatCameSince() {
        check.promise("35 back, what came since stays");
        DecisionArrays x = new DecisionArrays();
        x.array(4, 2);
        x.write(0, 1, 0, 0, 0, 4, 5);
        x.mark();
        x.array(4, 1);
        x.write(1, 0, 0, 0, 0, 4, 7);
        x.pin(1, 0, 0, 0, 0, true);
        x.decide(0, 1, 0, 0, 0);
        x.candidate(0, 3);
        x.choose(0, 0);
        x.rule(0, 0, 1, 0, 0);
        x.rows(0, 1);
        x.setRow(2, 0, 0);
        check.due(x.score(), 3);
        check.fine(x, x.back(), 0);
        check.due(x.read(0, 1, 0, 0, 0, 4), 5);
        check.due(x.read(1, 0, 0, 0, 0, 4), 7);
        check.due(x.about(1, 5), 1);
        check.due(x.row(2, 0), 0);
        check.due(x.count(0), 3);
        check.due(x.count(2), 1);
        check.due(x.decision(0, 2), 1);
        check.due(x.decision(0, 3), -2);
        check.due(x.count(3), 1);
        check.due(x.score(), 5);
    }

    private static void rowsAndPins() {
        check.promise("35 back, ROWS and PINS");
        DecisionArrays x = new DecisionArrays();
        x.array(4, 2);
        x.rows(0, 3);
        x.setRow(1, 0, 0);
        x.pin(0, 0, 0, 0, 0, true);
        x.mark();
        x.setRow(1, 0, -1);
        x.setRow(1, 1, 0);
        x.pin(0, 0, 0, 0, 0, false);
        x.write(0, 0, 0, 0, 0, 4, 8);
        x.write(0, 1, 0, 0, 0, 4, 9);
        x.pin(0, 1, 0, 0, 0, true);
        check.fine(x, x.back(), 0);
        check.due(x.row(1, 0), 0);
        check.due(x.row(1, 1), -1);
        check.due(x.read(0, 0, 0, 0, 0, 4), 0);
        check.due(x.read(0, 1, 0, 0, 0, 4), 0);
        check.due(x.pin(0, 0, 0, 0, 0, true), 1);
        check.due(x.pin(0, 1, 0, 0, 0, false), 0);
    }

    private static void levels() {
        check.promise("34 mark, used again with more arrays");
        DecisionArrays x = new DecisionArrays();
        for (int a = 0; a < 20; a++) {
            x.array(5, a);
            x.fill(a, 0, a, 5, a);
            check.due(x.mark(), 1);
            x.fill(a, 0, a, 5, -1);
            x.mark();
            x.fill(0, 0, 0, 5, -2);
            check.due(x.back(), 1);
            check.due(x.read(a, 0, 0, 0, 0, 5), a == 0 ? 0 : -1);
            check.due(x.back(), 0);
            check.due(x.read(a, a - 1, 0, 0, 0, 5), a);
        }
    }

    private static void count() {
        check.promise("36 count");
        DecisionArrays x = new DecisionArrays();
        x.array(4, 5);
        x.rows(0, 7);
        x.decide(0, 0, 0, 0, 0);
        x.decide(0, 1, 0, 0, 0);
        x.decide(0, 2, 0, 0, 0);
        x.span(0, 1, 3, 1);
        x.span(1, 1, 2, 1);
        x.rule(0, 0, 0, 0, 0);
        x.mark();
        long[] due = {2, 12, 3, 1, 1, 6};
        for (int what = 0; what < due.length; what++) {
            check.fine(x, x.count(what), due[what]);
        }
        check.refused(x, x.count(6), 9);
        check.refused(x, x.count(-1), 9);
    }
}

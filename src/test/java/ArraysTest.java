/** Promises 1 to 8. */
public final class ArraysTest {
    private static final Check check = new Check();

    public static void main(String[] args) {
        newObject();
        array();
        things();
        rows();
        grid();
        gridBounds();
        about();
        row();
        setRow();
        check.end();
    }

    private static void newObject() {
        check.promise("1 a new object");
        DecisionArrays x = new DecisionArrays();
        check.due(x.code(), 0);
        for (int what = 0; what <= 4; what++) {
            check.fine(x, x.count(what), 0);
        }
        check.due(x.count(5), 1);
        check.due(x.score(), 0);
        check.refused(x, x.back(), 9);
        check.refused(x, x.about(0, 0), 5);
        check.refused(x, x.decision(0, 0), 9);
        check.silent(x, x.amount(0), 0, 9);
        DecisionArrays y = new DecisionArrays();
        y.array(4, 3);
        check.due(x.count(0), 0);
    }

    private static void array() {
        check.promise("2 array");
        DecisionArrays x = new DecisionArrays();
        for (int kind = 0; kind <= 8; kind++) {
            check.fine(x, x.array(kind, kind), kind);
            check.due(x.about(kind, 0), kind);
            check.due(x.about(kind, 1), 1);
            check.due(x.about(kind, 2), kind);
            check.due(x.about(kind, 3), -1);
        }
        check.due(x.count(1), 36);
        for (int i = 0; i < 7; i++) {
            check.due(x.read(7, i, 0, 0, 0, 7), 0);
            check.due(x.code(), 0);
        }
        check.refused(x, x.array(-1, 1), 9);
        check.refused(x, x.array(9, 1), 9);
        check.refused(x, x.array(9, -1), 9);
        check.refused(x, x.array(9, 201), 9);
        check.refused(x, x.array(4, -1), 4);
        check.refused(x, x.array(4, Integer.MIN_VALUE), 4);
        check.refused(x, x.array(4, 201), 8);
        check.refused(x, x.array(4, Integer.MAX_VALUE), 8);
        check.due(x.count(0), 9);
        check.due(x.count(1), 36);
        check.fine(x, x.array(4, 200), 9);
        sixtyArrays();
        fourThousandElements();
    }

    private static void sixtyArrays() {
        DecisionArrays x = new DecisionArrays();
        for (int i = 0; i < 60; i++) {
            check.due(x.array(i % 9, 0), i);
        }
        check.refused(x, x.array(4, 0), 8);
        check.refused(x, x.array(4, -1), 4);
        check.refused(x, x.things(0, 0), 8);
        check.refused(x, x.rows(0, 0), 8);
        check.refused(x, x.copy(0, 0), 8);
        check.refused(x, x.deep(0), 8);
        check.refused(x, x.grid(4, 1, 0, 0, 0, 0), 8);
        check.due(x.count(0), 60);
    }

    private static void fourThousandElements() {
        DecisionArrays x = new DecisionArrays();
        for (int i = 0; i < 19; i++) {
            check.due(x.array(4, 200), i);
        }
        check.due(x.rows(0, 199), 19);
        check.refused(x, x.array(4, 2), 8);
        check.refused(x, x.things(1, 2), 8);
        check.refused(x, x.rows(0, 2), 8);
        check.refused(x, x.copy(0, 2), 8);
        check.refused(x, x.deep(0), 8);
        check.refused(x, x.grid(4, 1, 2, 0, 0, 0), 8);
        check.fine(x, x.array(4, 1), 20);
        check.due(x.count(1), 4000);
        check.refused(x, x.array(4, 1), 8);
        check.fine(x, x.array(4, 0), 21);
    }

    private static void things() {
        check.promise("3 things");
        DecisionArrays x = new DecisionArrays();
        for (int cls = 0; cls < 7; cls++) {
            check.fine(x, x.things(cls, 2), cls);
            check.due(x.about(cls, 0), 8);
            check.due(x.about(cls, 1), 1);
            check.due(x.about(cls, 3), cls);
            check.due(x.write(cls, 0, 0, 0, 0, 8, 700 + cls), 0);
            check.due(x.write(cls, 1, 0, 0, 0, 8, 701 + cls), -7);
        }
        check.refused(x, x.things(7, 1), 9);
        check.refused(x, x.things(-1, -1), 9);
        check.refused(x, x.things(6, -1), 4);
        check.refused(x, x.things(6, 201), 8);
        check.due(x.count(0), 7);
    }

    private static void rows() {
        check.promise("4 rows");
        DecisionArrays x = new DecisionArrays();
        x.things(3, 4);
        for (int a = 0; a < 3; a++) {
            check.fine(x, x.rows(a, 2), a + 1);
            check.due(x.about(a + 1, 0), 8);
            check.due(x.about(a + 1, 1), a + 2);
            check.due(x.about(a + 1, 2), 2);
            check.due(x.about(a + 1, 3), 3);
            check.due(x.about(a + 1, 4), 2);
        }
        check.refused(x, x.rows(3, 1), 9);
        check.refused(x, x.rows(3, -1), 9);
        check.refused(x, x.rows(4, -1), 5);
        check.refused(x, x.rows(-1, 1), 5);
        check.refused(x, x.rows(0, -1), 4);
        check.refused(x, x.rows(0, 201), 8);
        check.due(x.count(0), 4);
        check.due(x.count(1), 10);
    }

    private static void grid() {
        check.promise("5 grid");
        DecisionArrays x = new DecisionArrays();
        check.fine(x, x.grid(2, 4, 2, 2, 1, 3), 0);
        int[] depths = {4, 3, 2, 1, 2, 1, 3, 2, 1, 2, 1};
        check.due(x.count(0), depths.length);
        for (int a = 0; a < depths.length; a++) {
            check.due(x.about(a, 0), 2);
            check.due(x.about(a, 1), depths[a]);
            check.due(x.about(a, 2), new int[] {3, 1, 2, 2}[depths[a] - 1]);
            check.due(x.about(a, 4), 0);
        }
        check.due(x.row(0, 0), 1);
        check.due(x.row(0, 1), 6);
        check.due(x.row(1, 1), 4);
        check.due(x.row(9, 0), 10);
        check.due(x.count(1), 2 + 4 + 4 + 12);
        check.due(x.place(0, 1, 1, 0, 2), 10002);
        check.fine(x, x.grid(0, 1, 5, -1, 999, -1), 11);
        check.due(x.about(11, 1), 1);
        check.due(x.count(1), 27);
        check.fine(x, x.grid(7, 3, 0, 5, 5, 0), 12);
        check.due(x.count(0), 13);
    }

    private static void gridBounds() {
        check.promise("5 grid, codes");
        DecisionArrays x = new DecisionArrays();
        check.refused(x, x.grid(8, 2, 1, 1, 1, 1), 9);
        check.refused(x, x.grid(-1, 2, 1, 1, 1, 1), 9);
        check.refused(x, x.grid(9, 2, -1, 1, 1, 1), 9);
        check.refused(x, x.grid(4, 0, 1, 1, 1, 1), 9);
        check.refused(x, x.grid(4, 5, 1, 1, 1, 1), 9);
        check.refused(x, x.grid(4, 4, 1, 1, 1, -1), 4);
        check.refused(x, x.grid(4, 2, 0, -1, 0, 0), 4);
        check.refused(x, x.grid(4, 2, 201, -1, 0, 0), 4);
        check.refused(x, x.grid(4, 2, 1, 201, 0, 0), 8);
        check.refused(x, x.grid(4, 4, 200, 200, 200, 200), 8);
        check.refused(x, x.grid(4, 2, 60, 1, 0, 0), 8);
        check.refused(x, x.grid(4, 2, 20, 200, 0, 0), 8);
        check.due(x.count(0), 0);
        check.due(x.count(1), 0);
        check.fine(x, x.grid(4, 2, 59, 66, 0, 0), 0);
        check.due(x.count(0), 60);
        check.due(x.count(1), 59 + 59 * 66);
        DecisionArrays y = new DecisionArrays();
        check.refused(y, y.grid(4, 2, 20, 200, 0, 0), 8);
        check.fine(y, y.grid(4, 2, 20, 199, 0, 0), 0);
        check.due(y.count(1), 4000);
        DecisionArrays z = new DecisionArrays();
        check.fine(z, z.grid(4, 1, 200, 0, 0, 0), 0);
        check.fine(z, z.grid(4, 2, 2, 200, 0, 0), 1);
    }

    private static void about() {
        check.promise("6 about");
        DecisionArrays x = new DecisionArrays();
        x.array(5, 3);
        x.rows(0, 3);
        x.setRow(1, 1, 0);
        x.pin(0, 0, 0, 0, 0, true);
        x.pin(1, 1, 2, 0, 0, true);
        check.fine(x, x.about(0, 5), 2);
        check.fine(x, x.about(1, 5), 0);
        check.fine(x, x.about(0, 4), 0);
        x.write(0, 1, 0, 0, 0, 5, -1);
        check.fine(x, x.about(0, 4), 0);
        check.fine(x, x.about(1, 4), 2);
        check.fine(x, x.about(1, 3), -1);
        check.refused(x, x.about(0, 6), 9);
        check.refused(x, x.about(0, -1), 9);
        check.refused(x, x.about(2, 6), 5);
        check.refused(x, x.about(-1, 0), 5);
    }

    private static void row() {
        check.promise("7 row");
        DecisionArrays x = new DecisionArrays();
        x.array(5, 3);
        x.rows(0, 3);
        x.setRow(1, 2, 0);
        check.fine(x, x.row(1, 2), 0);
        check.fine(x, x.row(1, 0), -1);
        check.silent(x, x.row(2, 0), -1, 5);
        check.silent(x, x.row(-1, 0), -1, 5);
        check.silent(x, x.row(0, 0), -1, 1);
        check.silent(x, x.row(0, 99), -1, 1);
        check.silent(x, x.row(1, 3), -1, 2);
        check.silent(x, x.row(1, -1), -1, 2);
    }

    private static void setRow() {
        check.promise("8 setRow");
        DecisionArrays x = new DecisionArrays();
        x.array(8, 3);
        x.things(2, 3);
        x.things(2, 1);
        x.rows(1, 2);
        x.rows(3, 2);
        x.array(5, 1);
        check.fine(x, x.setRow(3, 0, 1), 0);
        check.fine(x, x.setRow(3, 1, 2), 0);
        check.fine(x, x.setRow(4, 1, 3), 0);
        check.due(x.row(3, 1), 2);
        check.due(x.place(4, 1, 1, 0, 0), 2000);
        check.refused(x, x.setRow(3, 0, 0), 1);
        check.refused(x, x.setRow(3, 0, 5), 1);
        check.refused(x, x.setRow(3, 0, 3), 1);
        check.refused(x, x.setRow(4, 0, 1), 1);
        check.refused(x, x.setRow(1, 0, 1), 1);
        check.refused(x, x.setRow(1, 0, -1), 1);
        check.refused(x, x.setRow(1, 3, -1), 2);
        check.refused(x, x.setRow(3, 2, 0), 2);
        check.refused(x, x.setRow(3, -1, 1), 2);
        check.refused(x, x.setRow(3, 9, 6), 5);
        check.refused(x, x.setRow(3, 0, -2), 5);
        check.refused(x, x.setRow(6, 0, -1), 5);
        check.due(x.row(3, 0), 1);
        check.fine(x, x.setRow(3, 0, -1), 0);
        check.fine(x, x.row(3, 0), -1);
        check.fine(x, x.setRow(3, 0, 2), 0);
        check.due(x.row(3, 0), 2);
    }
}

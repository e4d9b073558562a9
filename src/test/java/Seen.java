/** All that the face tells of an object, in one text, so that a call that must change nothing can be held against it. */
final class Seen {
    /** Longer arrays are looked at as a whole, so that an object's 512 calls are enough. */
    private static final int LONG = 30;

    private final DecisionArrays x;
    private final StringBuilder text = new StringBuilder();

    private Seen(DecisionArrays x) {
        this.x = x;
    }

    static String of(DecisionArrays x) {
        Seen seen = new Seen(x);
        for (int what = 0; what <= 5; what++) {
            seen.add(x.count(what));
        }
        int arrays = x.count(0);
        for (int a = 0; a < arrays; a++) {
            seen.array(a);
        }
        int decisions = x.count(2);
        for (int d = 0; d < decisions; d++) {
            seen.decision(d);
        }
        seen.rules();
        return seen.text.toString();
    }

    private void add(long number) {
        text.append(number).append(' ');
    }

    private void array(int a) {
        int kind = x.about(a, 0);
        int depth = x.about(a, 1);
        int length = x.about(a, 2);
        add(kind);
        add(depth);
        add(length);
        add(x.about(a, 3));
        if (length > LONG) {
            add(x.hash(a));
            add(x.about(a, 5));
        }
        for (int i = 0; i < length && length <= LONG; i++) {
            add(depth > 1 ? x.row(a, i) : x.read(a, i, 0, 0, 0, kind));
            add(depth > 1 ? 0 : pinned(a, i));
        }
        text.append('\n');
    }

    /** There is no call that only asks: the PIN is set and, where it was not there, taken off again. */
    private int pinned(int a, int i) {
        int was = x.pin(a, i, 0, 0, 0, true);
        if (was == 0) {
            x.pin(a, i, 0, 0, 0, false);
        }
        return was;
    }

    private void decision(int d) {
        for (int what = 0; what <= 3; what++) {
            add(x.decision(d, what));
        }
        int candidates = x.decision(d, 2);
        for (int c = 0; c < candidates; c++) {
            add(x.candidateOf(d, c));
        }
        text.append('\n');
    }

    private void rules() {
        int rules = x.count(3);
        for (int r = 0; r < rules; r++) {
            add(x.amount(r));
        }
        add(x.score());
    }
}

/** Counts answers that are not as due, and tells where each of them stands. */
final class Check {
    private int wrong = 0;
    private int seen = 0;
    private String promise = "";

    void promise(String name) {
        promise = name;
    }

    void due(long got, long want) {
        seen++;
        if (got != want) {
            wrong++;
            System.out.println(where() + promise + ": answered " + got + ", due is " + want);
        }
    }

    /** An answer that is a code: also code() must tell it. */
    void refused(DecisionArrays x, long got, int code) {
        due(got, -code);
        due(x.code(), code);
    }

    /** An answer that is no code: code() must be 0. */
    void fine(DecisionArrays x, long got, long want) {
        due(got, want);
        due(x.code(), 0);
    }

    /** A call that answers something of its own with a code that code() alone tells. */
    void silent(DecisionArrays x, long got, long want, int code) {
        due(got, want);
        due(x.code(), code);
    }

    /** Two texts that must be the same. */
    void alike(String got, String want) {
        seen++;
        if (!got.equals(want)) {
            wrong++;
            System.out.println(where() + promise + ": there is\n" + got + "\ndue is\n" + want);
        }
    }

    /** The lines of the tests that led here, the inmost one first. */
    private static String where() {
        StringBuilder lines = new StringBuilder();
        for (StackTraceElement frame : new Throwable().getStackTrace()) {
            String file = frame.getFileName();
            if (file != null && file.endsWith("Test.java")) {
                lines.append(lines.length() == 0 ? file : "").append(':').append(frame.getLineNumber());
            }
        }
        return lines.append(' ').toString();
    }

    void end() {
        System.out.println(seen + " answers, " + wrong + " not as due");
        if (wrong > 0) {
            System.exit(1);
        }
    }
}

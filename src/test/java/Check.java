/** Counts the answers of a test that are not due, and prints them. */
final class Check {
    /** A call of the program. */
    interface Call {
        Number answer();
    }

    /** A broken promise may show a million times; so many are enough to read. */
    private static final int MOST_PRINTED = 40;

    private int done = 0;
    private int wrong = 0;

    /** What a call answers, as a text; an exception is told by its exact class. */
    static String outcome(Call call) {
        try {
            return String.valueOf(call.answer());
        } catch (RuntimeException e) {
            return "throws." + e.getClass().getSimpleName();
        }
    }

    void due(String told, Object want, Call call) {
        due(told, want, outcome(call));
    }

    void due(String told, Object want, String got) {
        done++;
        if (!got.equals(String.valueOf(want))) {
            wrong++;
            if (wrong <= MOST_PRINTED) {
                System.out.println(told + ": answered " + got + ", due is " + want);
            }
        }
    }

    void dueThat(String told, boolean holds) {
        due(told, true, String.valueOf(holds));
    }

    int wrong() {
        return wrong;
    }

    void end() {
        System.out.println(done + " answers looked at, " + wrong + " not as due");
        if (wrong != 0 || done == 0) {
            System.exit(1);
        }
    }
}

/** Counts the answers that are not the due ones, and how a test ends. */
final class Check {
    static final int ARGUMENT = 1001;
    static final int STATE = 1002;
    static final int INDEX = 1003;
    static final int OTHER = 1004;

    private static int wrong = 0;
    private static int looked = 0;

    private Check() {
    }

    interface Call {
        int answer();
    }

    /** The answer of a call, or one of the numbers above for what it throws. */
    static int of(Call call) {
        try {
            return call.answer();
        } catch (RuntimeException e) {
            // The exact class: those of the machine are classes below the document's ones.
            if (e.getClass() == IllegalArgumentException.class) {
                return ARGUMENT;
            }
            if (e.getClass() == IllegalStateException.class) {
                return STATE;
            }
            return e.getClass() == IndexOutOfBoundsException.class ? INDEX : OTHER;
        }
    }

    static void due(String what, int want, Call call) {
        same(what, want, of(call));
    }

    static void due(String what, boolean want, boolean got) {
        same(what, want ? 1 : 0, got ? 1 : 0);
    }

    static void same(String what, Object want, Object got) {
        looked++;
        if (!want.equals(got)) {
            wrong++;
            System.out.println(what + ": answered " + got + ", due is " + want);
        }
    }

    static void end() {
        System.out.println(looked + " answers, " + wrong + " of them wrong");
        if (wrong != 0 || looked == 0) {
            System.exit(1);
        }
    }
}

/** Counts and prints the answers that are not as due. */
final class Check {
    interface Call {
        long answer();
    }

    private int wrong;
    private int checked;

    void due(String what, long got, long want) {
        checked++;
        if (got != want) {
            wrong++;
            System.out.println(what + " answered " + got + ", due is " + want);
        }
    }

    void dueText(String what, String got, String want) {
        checked++;
        if (!got.equals(want)) {
            wrong++;
            System.out.println(what + " answered " + got + ", due is " + want);
        }
    }

    void illegalArgument(String what, Call call) {
        dueText(what, told(call), "throws.IllegalArgumentException");
    }

    void illegalState(String what, Call call) {
        dueText(what, told(call), "throws.IllegalStateException");
    }

    /** The answer of a call as a text, also when it throws. */
    static String told(Call call) {
        try {
            return Long.toString(call.answer());
        } catch (RuntimeException e) {
            return "throws." + e.getClass().getSimpleName();
        }
    }

    void finish() {
        System.out.println(checked + " checked, " + wrong + " wrong");
        if (wrong != 0) {
            System.exit(1);
        }
    }
}

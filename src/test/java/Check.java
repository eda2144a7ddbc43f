/** What the tests share: compares answers with those due, and ends with exit code 1 if one was wrong. */
final class Check {
    interface Call {
        long answer();
    }

    private static final int SHOWN_AT_MOST = 50;
    private static int checked = 0;
    private static int wrong = 0;

    private Check() {
    }

    static void same(String call, long got, long due) {
        checked++;
        if (got != due) {
            tell(call + " answered " + got + ", due is " + due);
        }
    }

    static void same(String call, String got, String due) {
        checked++;
        if (!got.equals(due)) {
            tell(call + " answered " + got + ", due is " + due);
        }
    }

    /** The answer as text; an exception as throws. and its class, so that both compare alike. */
    static String outcome(Call call) {
        try {
            return Long.toString(call.answer());
        } catch (RuntimeException e) {
            return "throws." + e.getClass().getSimpleName();
        }
    }

    static void refusedAsUnknown(String name, Call call) {
        same(name, outcome(call), "throws.IllegalArgumentException");
    }

    static void refusedAsOutside(String name, Call call) {
        same(name, outcome(call), "throws.IndexOutOfBoundsException");
    }

    static void refusedByState(String name, Call call) {
        same(name, outcome(call), "throws.IllegalStateException");
    }

    static void refusedForRoom(String name, Call call) {
        same(name, outcome(call), "throws.UnsupportedOperationException");
    }

    static void end() {
        System.out.println(checked + " answers looked at, " + wrong + " not as due");
        if (wrong != 0) {
            System.exit(1);
        }
    }

    private static void tell(String what) {
        wrong++;
        if (wrong <= SHOWN_AT_MOST) {
            System.out.println(what);
        }
    }
}

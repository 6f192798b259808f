/** Counts and prints the answers that are not due; a test class ends with Check.end(). */
final class Check {
    static final Class<?> RANGE = IndexOutOfBoundsException.class;
    static final Class<?> ARGUMENT = IllegalArgumentException.class;
    static final Class<?> STATE = IllegalStateException.class;

    interface Call {
        void make();
    }

    private static int made = 0;
    private static int wrong = 0;

    private Check() {
    }

    static void same(String what, long got, long due) {
        made++;
        if (got != due) {
            tell(what + " answered " + got + ", due is " + due);
        }
    }

    static void same(String what, boolean got, boolean due) {
        same(what, got ? 1 : 0, due ? 1 : 0);
    }

    static void same(String what, double got, double due) {
        made++;
        if (got != due) {
            tell(what + " answered " + got + ", due is " + due);
        }
    }

    static void same(String what, String got, String due) {
        made++;
        if (!got.equals(due)) {
            tell(what + " answered " + got + ", due is " + due);
        }
    }

    /** The call throws just this exception, and by a throw of the desk's own. */
    static void fails(String what, Class<?> due, Call call) {
        made++;
        String got = "nothing";
        try {
            call.make();
        } catch (RuntimeException e) {
            got = nameOf(e);
        }
        if (!got.equals(due.getSimpleName())) {
            tell(what + " threw " + got + ", due is " + due.getSimpleName());
        }
    }

    /** The exception's name; what the library throws gets another one, so that it is never due. */
    static String nameOf(RuntimeException e) {
        StackTraceElement[] calls = e.getStackTrace();
        boolean own = calls.length > 0 && !calls[0].getClassName().contains(".");
        return e.getClass().getSimpleName() + (own ? "" : " of the library");
    }

    /** The call throws just this exception, and the desk is then as it was. */
    static void failsWithout(String what, Class<?> due, PassDesk desk, Call call) {
        long before = desk.digest();
        fails(what, due, call);
        same("digest() behind " + what, desk.digest(), before);
    }

    private static void tell(String text) {
        wrong++;
        System.out.println("  " + text);
    }

    static void end() {
        System.out.println("  " + made + " answers, " + wrong + " of them not as due");
        if (wrong != 0 || made == 0) {
            System.exit(1);
        }
    }
}

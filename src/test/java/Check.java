/** What the tests say: answers that are due, exceptions that are due, and an exit code at the end. */
final class Check {
    interface Call {
        long answer();
    }

    static final Class<?> INDEX = IndexOutOfBoundsException.class;
    static final Class<?> ARGUMENT = IllegalArgumentException.class;
    static final Class<?> STATE = IllegalStateException.class;

    private static int looked = 0;
    private static int wrong = 0;

    private Check() { }

    static void due(String what, long got, long want) {
        looked++;
        if (got != want) {
            wrong++;
            System.out.println("  " + what + ": answered " + got + ", due is " + want);
        }
    }

    /** Asks that a call throws just this exception. */
    static void thrown(String what, Class<?> due, Call call) {
        looked++;
        String got;
        try {
            got = "answered " + call.answer();
        } catch (RuntimeException e) {
            if (e.getClass() == due) {
                return;
            }
            got = "threw " + e;
        }
        wrong++;
        System.out.println("  " + what + ": " + got + ", due is " + due.getSimpleName());
    }

    static void fail(String what) {
        looked++;
        wrong++;
        System.out.println("  " + what);
    }

    /** Notes that so many answers were as due. */
    static void alike(int answers) {
        looked += answers;
    }

    static int wrongs() {
        return wrong;
    }

    static void end(String test) {
        System.out.println(test + ": " + looked + " looked at, " + wrong + " wrong");
        if (wrong > 0) {
            System.exit(1);
        }
    }
}

/** Counts answers that are not as due, and prints them. */
final class Check {
    private static int asked;
    private static int wrong;

    interface Call {
        void run();
    }

    static void same(String what, long due, long got) {
        asked++;
        if (due != got) {
            wrong(what + " answered " + got + ", due is " + due);
        }
    }

    static void same(String what, double due, double got) {
        asked++;
        if (due != got) {
            wrong(what + " answered " + got + ", due is " + due);
        }
    }

    static void same(String what, boolean due, boolean got) {
        same(what, due ? 1 : 0, got ? 1 : 0);
    }

    /** The call must throw just that, by a throw of the program's own, and change nothing. */
    static void index(GantryHall hall, String what, Call call) {
        refuses(hall, what, IndexOutOfBoundsException.class, call);
    }

    static void argument(GantryHall hall, String what, Call call) {
        refuses(hall, what, IllegalArgumentException.class, call);
    }

    static void state(GantryHall hall, String what, Call call) {
        refuses(hall, what, IllegalStateException.class, call);
    }

    private static void refuses(GantryHall hall, String what, Class<?> due, Call call) {
        asked++;
        long before = hall.digest();
        RuntimeException got = null;
        try {
            call.run();
        } catch (RuntimeException e) {
            got = e;
        }
        if (got == null || got.getClass() != due || !isThrownByProgram(got)) {
            wrong(what + " threw " + got + ", due is " + due.getSimpleName());
        }
        if (hall.digest() != before) {
            wrong(what + " changed something");
        }
    }

    /** Whether the program itself threw it, and not the machine or the library below. */
    static boolean isThrownByProgram(RuntimeException e) {
        StackTraceElement[] trace = e.getStackTrace();
        return trace.length > 0 && trace[0].getClassName().equals("GantryHall")
                && trace[0].getMethodName().startsWith("need");
    }

    static void wrong(String text) {
        wrong++;
        System.out.println(text);
    }

    static void end(String name) {
        System.out.println(name + ": " + asked + " asked, " + wrong + " wrong");
        if (wrong != 0) {
            System.exit(1);
        }
    }

    private Check() {
    }
}

import java.util.function.Supplier;

/** Counts answers that are not as due, and prints them. */
final class Check {
    private static int asked;
    private static int wrong;
    /** The sentence of the document that is looked at. */
    private static String about = "";

    interface Call {
        void run();
    }

    /** A call with one number that is looked at. */
    interface With {
        void run(GantryHall hall, int number);
    }

    static void about(String words) {
        about = words;
    }

    static int asked() {
        return asked;
    }

    static void same(String what, long due, long got) {
        asked++;
        if (due != got) {
            wrong(what + " answered " + got + ", due is " + due);
        }
    }

    static void same(String what, double due, double got) {
        asked++;
        if (due != got) {
            wrong(what + " answered " + got + ", due is " + due);
        }
    }

    static void same(String what, boolean due, boolean got) {
        same(what, due ? 1 : 0, got ? 1 : 0);
    }

    /** The call must throw just that, by a throw of the program's own, and change nothing. */
    static void index(GantryHall hall, String what, Call call) {
        refuses(hall, what, IndexOutOfBoundsException.class, call);
    }

    static void argument(GantryHall hall, String what, Call call) {
        refuses(hall, what, IllegalArgumentException.class, call);
    }

    static void state(GantryHall hall, String what, Call call) {
        refuses(hall, what, IllegalStateException.class, call);
    }

    /** No number but those from least to most may be an index; those must be taken. */
    static void indexRange(int least, int most, Supplier<GantryHall> halls, With call) {
        range(IndexOutOfBoundsException.class, least, most, halls, call);
    }

    static void argumentRange(int least, int most, Supplier<GantryHall> halls, With call) {
        range(IllegalArgumentException.class, least, most, halls, call);
    }

    private static void range(Class<?> due, int least, int most, Supplier<GantryHall> halls, With call) {
        takes("the least", least, halls, call);
        takes("the most", most, halls, call);
        takes("the middle", (least & most) + ((least ^ most) >> 1), halls, call);
        refusesNumber(due, Integer.MIN_VALUE, halls, call);
        if (least > Integer.MIN_VALUE) {
            refusesNumber(due, least - 1, halls, call);
        }
        if (most < Integer.MAX_VALUE) {
            refusesNumber(due, most + 1, halls, call);
            refusesNumber(due, Integer.MAX_VALUE, halls, call);
        }
    }

    private static void takes(String which, int number, Supplier<GantryHall> halls, With call) {
        asked++;
        try {
            call.run(halls.get(), number);
        } catch (RuntimeException e) {
            wrong(which + ", " + number + ", threw " + e);
        }
    }

    private static void refusesNumber(Class<?> due, int number, Supplier<GantryHall> halls, With call) {
        GantryHall hall = halls.get();
        refuses(hall, "with " + number, due, () -> call.run(hall, number));
    }

    private static void refuses(GantryHall hall, String what, Class<?> due, Call call) {
        asked++;
        long before = hall.digest();
        RuntimeException got = null;
        try {
            call.run();
        } catch (RuntimeException e) {
            got = e;
        }
        if (got == null || got.getClass() != due || !isThrownByProgram(got)) {
            wrong(what + " threw " + got + ", due is " + due.getSimpleName());
        }
        if (hall.digest() != before) {
            wrong(what + " changed something");
        }
    }

    /** Whether the program itself threw it, and not the machine or the library below. */
    static boolean isThrownByProgram(RuntimeException e) {
        StackTraceElement[] trace = e.getStackTrace();
        return trace.length > 0 && trace[0].getClassName().equals("GantryHall")
                && trace[0].getMethodName().startsWith("need");
    }

    static void wrong(String text) {
        wrong++;
        System.out.println(about + text);
    }

    static void end(String name) {
        System.out.println(name + ": " + asked + " asked, " + wrong + " wrong");
        if (wrong != 0) {
            throw new AssertionError(name + ": " + wrong + " wrong");
        }
    }

    private Check() {
    }
}

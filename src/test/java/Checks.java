import java.util.function.IntSupplier;

/** Compares answers with those that are due, and tells how many were wrong. */
final class Checks {
    private static int wrong = 0;

    private Checks() {
    }

    static void due(String call, long want, long got) {
        if (got != want) {
            report(call + " answered " + got + ", due is " + want);
        }
    }

    static void due(String what, String want, String got) {
        if (!got.equals(want)) {
            report(what + " is\n" + got + "\ndue is\n" + want);
        }
    }

    static void outOfBounds(String call, Runnable body) {
        throwing(call, IndexOutOfBoundsException.class, body);
    }

    static void badArgument(String call, Runnable body) {
        throwing(call, IllegalArgumentException.class, body);
    }

    static void badState(String call, Runnable body) {
        throwing(call, IllegalStateException.class, body);
    }

    /** The class must be the very one: one that the machine throws may lie below it. */
    static void throwing(String call, Class<?> want, Runnable body) {
        try {
            body.run();
        } catch (RuntimeException e) {
            if (e.getClass() != want) {
                report(call + " threw " + e + ", due is " + want.getSimpleName());
            }
            return;
        }
        report(call + " threw nothing, due is " + want.getSimpleName());
    }

    /** The class's answer, or the name of what it throws. */
    static String answer(IntSupplier call) {
        try {
            return Integer.toString(call.getAsInt());
        } catch (RuntimeException e) {
            return "throws " + e.getClass().getName();
        }
    }

    /** The answer of a call that gives none. */
    static int none(Runnable call) {
        call.run();
        return 0;
    }

    static void report(String text) {
        wrong++;
        System.out.println(text);
    }

    static void end() {
        if (wrong != 0) {
            System.out.println(wrong + " wrong");
            System.exit(1);
        }
    }
}

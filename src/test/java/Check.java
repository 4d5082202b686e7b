import java.util.function.BooleanSupplier;
import java.util.function.DoubleSupplier;
import java.util.function.LongSupplier;

/** Compares answers with those that are due, and ends a test with exit code 1 if one was wrong. */
final class Check {
    private static int checks = 0;
    private static int wrong = 0;

    private Check() {
    }

    static void due(String what, long want, LongSupplier call) {
        try {
            long got = call.getAsLong();
            compare(what, String.valueOf(want), String.valueOf(got));
        } catch (RuntimeException e) {
            compare(what, String.valueOf(want), e.toString());
        }
    }

    static void dueFlag(String what, boolean want, BooleanSupplier call) {
        due(what, want ? 1 : 0, () -> call.getAsBoolean() ? 1 : 0);
    }

    static void dueReal(String what, double want, DoubleSupplier call) {
        try {
            double got = call.getAsDouble();
            compare(what, String.valueOf(want), String.valueOf(got));
        } catch (RuntimeException e) {
            compare(what, String.valueOf(want), e.toString());
        }
    }

    /** The class of the exception must be just this one, none below it. */
    static void thrown(String what, Class<? extends RuntimeException> want, Runnable call) {
        try {
            call.run();
            compare(what, want.getSimpleName(), "nothing thrown");
        } catch (RuntimeException e) {
            compare(what, want.getSimpleName(), nameOf(e));
        }
    }

    /** An exception that the machine or its library has thrown gets another name than one of the class's own. */
    static String nameOf(RuntimeException e) {
        StackTraceElement[] trace = e.getStackTrace();
        boolean isOwn = trace.length > 0 && trace[0].getClassName().startsWith("Takeoff")
            && !"/ by zero".equals(e.getMessage());
        return (isOwn ? "" : "the machine's ") + e.getClass().getSimpleName();
    }

    static void compare(String what, String want, String got) {
        checks++;
        if (!want.equals(got)) {
            wrong++;
            System.out.println("  " + what + ": due is " + want + ", the answer is " + got);
        }
    }

    static void end() {
        System.out.println(checks + " checks, " + wrong + " wrong");
        if (wrong != 0 || checks == 0) {
            System.exit(1);
        }
    }
}

import java.util.NoSuchElementException;
import java.util.function.Supplier;

/**
 * What the boundary cases are tested with: which call is taken, which is refused and with what exception,
 * and that a refused call leaves every answer as it was.
 */
final class Edge {
    static final Class<IndexOutOfBoundsException> BOUNDS = IndexOutOfBoundsException.class;
    static final Class<IllegalArgumentException> ARGUMENT = IllegalArgumentException.class;
    static final Class<IllegalStateException> STATE = IllegalStateException.class;
    static final Class<UnsupportedOperationException> UNSUPPORTED = UnsupportedOperationException.class;
    static final Class<ArithmeticException> ARITHMETIC = ArithmeticException.class;
    static final Class<NoSuchElementException> NO_ELEMENT = NoSuchElementException.class;

    private Edge() {
    }

    /** One call, or several of which the last one's answer counts. */
    interface Call {
        Object on(Takeoff x);
    }

    /** A call with a number that is tried at its edges. */
    interface CallWith {
        Object on(Takeoff x, int number);
    }

    static void answer(String what, Object due, Supplier<Takeoff> make, Call call) {
        Check.compare(what, String.valueOf(due), outcome(make.get(), call));
    }

    /** Several answers of one and the same object, one after the other. */
    static void answers(String what, String due, Supplier<Takeoff> make, Call... calls) {
        Takeoff x = make.get();
        StringBuilder got = new StringBuilder();
        for (Call call : calls) {
            got.append(got.length() == 0 ? "" : " ").append(outcome(x, call));
        }
        Check.compare(what, due, got.toString());
    }

    static void taken(String what, Supplier<Takeoff> make, Call call) {
        String got = outcome(make.get(), call);
        Check.compare(what, "taken", got.startsWith("throws ") ? got : "taken");
    }

    static void refused(String what, Class<? extends RuntimeException> due, Supplier<Takeoff> make, Call call) {
        Check.compare(what, "throws " + due.getSimpleName(), outcome(make.get(), call));
        asks(what + ", and nothing is changed", make, call);
    }

    /** A call that changes nothing, whether it answers or throws. */
    static void asks(String what, Supplier<Takeoff> make, Call call) {
        same(what, Answers.of(make, x -> null), Answers.of(make, call));
    }

    /** Compares all answers of two objects, and tells the first in which they differ. */
    static void same(String what, String dueAnswers, String gotAnswers) {
        String[] due = dueAnswers.split("; ");
        String[] got = gotAnswers.split("; ");
        int differs = 0;
        while (differs < due.length && differs < got.length && due[differs].equals(got[differs])) {
            differs++;
        }
        Check.compare(what, told(due, differs), told(got, differs));
    }

    private static String told(String[] answers, int place) {
        return place < answers.length ? answers[place] : "no more answers";
    }

    /** The least and the greatest are taken; the next on each side and those far away are refused. */
    static void range(String what, int least, int most, Class<? extends RuntimeException> due,
            Supplier<Takeoff> make, CallWith call) {
        taken(what + ": " + least, make, x -> call.on(x, least));
        taken(what + ": " + most, make, x -> call.on(x, most));
        for (int wrong : new int[] {least - 1, most + 1, least + 256, most + (1 << 16),
            Integer.MIN_VALUE, Integer.MAX_VALUE}) {
            if (wrong < least || wrong > most) {
                refused(what + ": " + wrong, due, make, x -> call.on(x, wrong));
            }
        }
    }

    /** The numbers from 0 that so many of a kind have; 31 more would be the same in a shift by an int. */
    static void numbers(String what, int count, Supplier<Takeoff> make, CallWith call) {
        if (count > 0) {
            taken(what + ": 0", make, x -> call.on(x, 0));
            taken(what + ": " + (count - 1), make, x -> call.on(x, count - 1));
        }
        for (int wrong : new int[] {-1, count, count + 31, 256, 1 << 16, Integer.MIN_VALUE, Integer.MAX_VALUE}) {
            refused(what + ": " + wrong + " of " + count, BOUNDS, make, x -> call.on(x, wrong));
        }
    }

    static String outcome(Takeoff x, Call call) {
        try {
            return String.valueOf(call.on(x));
        } catch (RuntimeException e) {
            return "throws " + Check.nameOf(e);
        }
    }
}

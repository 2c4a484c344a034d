import java.util.Arrays;
import java.util.function.IntFunction;
import java.util.function.Supplier;

/** Calls that have to throw, and to change nothing. */
final class Refusal {
    static final Class<IndexOutOfBoundsException> BOUNDS = IndexOutOfBoundsException.class;
    static final Class<IllegalArgumentException> ARGUMENT = IllegalArgumentException.class;
    static final Class<IllegalStateException> STATE = IllegalStateException.class;

    /** Numbers that are below 0, the far ones too. */
    static final int[] BELOW = {-1, -2, -100, Integer.MIN_VALUE};

    interface CallOn {
        int answer(InkHall hall);
    }

    private Refusal() {
    }

    /** The call throws that on a sample, and the sample answers behind it what it answers without. */
    static void is(String what, Class<? extends RuntimeException> due, CallOn call) {
        in(Halls::sample, what, due, call);
    }

    /** So it is with a hall of another kind, of which two can be made that are alike. */
    static void in(Supplier<InkHall> made, String what, Class<? extends RuntimeException> due, CallOn call) {
        InkHall asked = made.get();
        Check.refuses(what, due, () -> call.answer(asked));
        Check.is(what + " and what can be asked then", Halls.asked(made.get()), Halls.asked(asked));
        InkHall spent = made.get();
        Check.refuses(what, due, () -> call.answer(spent));
        Check.is(what + " and what calls answer then", Halls.spent(made.get()), Halls.spent(spent));
    }

    /** At both ends the last number is taken, and the first one that is not in range throws. */
    static void outside(Supplier<InkHall> made, String what, int low, int high,
            Class<? extends RuntimeException> due, IntFunction<CallOn> calls) {
        for (int number : new int[] {low, high}) {
            Check.answers(what + " " + number, () -> calls.apply(number).answer(made.get()));
        }
        for (int number : new int[] {low - 1, high + 1, Integer.MIN_VALUE, Integer.MAX_VALUE}) {
            in(made, what + " " + number, due, calls.apply(number));
        }
    }

    /** The call takes the numbers of all scripts and no other, be there none, one, or as many as can be. */
    static void noScript(IntFunction<InkHall> withScripts, IntFunction<CallOn> calls) {
        for (int number : new int[] {-1, 0, 40}) {
            in(InkHall::new, "without scripts, " + number, BOUNDS, calls.apply(number));
        }
        for (int count : new int[] {1, 39, 40}) {
            outside(() -> withScripts.apply(count), "script", 0, count - 1, BOUNDS, calls);
        }
    }

    /** The call throws IndexOutOfBoundsException for all that is no number of so many things. */
    static void beside(String what, int count, IntFunction<CallOn> calls) {
        for (int number : noneOf(count)) {
            is(what + " of " + number, BOUNDS, calls.apply(number));
        }
    }

    /** Numbers that are below 0, or too high where there are so many things. */
    static int[] noneOf(int count) {
        int[] above = {count, count + 1, count + 1000, Integer.MAX_VALUE};
        int[] numbers = Arrays.copyOf(BELOW, BELOW.length + above.length);
        System.arraycopy(above, 0, numbers, BELOW.length, above.length);
        return numbers;
    }
}

import java.util.Arrays;
import java.util.function.IntFunction;

/** Calls that have to throw, and to change nothing. */
final class Refusal {
    static final Class<IndexOutOfBoundsException> BOUNDS = IndexOutOfBoundsException.class;
    static final Class<IllegalArgumentException> ARGUMENT = IllegalArgumentException.class;
    static final Class<IllegalStateException> STATE = IllegalStateException.class;

    /** Numbers that are below 0, the far ones too. */
    static final int[] BELOW = {-1, -2, -100, Integer.MIN_VALUE};

    interface CallOn {
        int answer(InkHall hall);
    }

    private Refusal() {
    }

    /** The call throws that on a sample, and the sample tells behind it what it tells without. */
    static void is(String what, Class<? extends RuntimeException> due, CallOn call) {
        InkHall hall = Halls.sample();
        Check.refuses(what, due, () -> call.answer(hall));
        Check.that(what + " changes nothing", Halls.told(hall).equals(Halls.told(Halls.sample())));
    }

    /** The call throws IndexOutOfBoundsException for all that is no number of so many things. */
    static void beside(String what, int count, IntFunction<CallOn> calls) {
        for (int number : noneOf(count)) {
            is(what + " of " + number, BOUNDS, calls.apply(number));
        }
    }

    /** Numbers that are below 0, or too high where there are so many things. */
    static int[] noneOf(int count) {
        int[] above = {count, count + 1, count + 1000, Integer.MAX_VALUE};
        int[] numbers = Arrays.copyOf(BELOW, BELOW.length + above.length);
        System.arraycopy(above, 0, numbers, BELOW.length, above.length);
        return numbers;
    }
}

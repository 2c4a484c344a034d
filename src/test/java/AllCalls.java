import java.util.ArrayList;
import java.util.List;
import java.util.function.Supplier;

/** All methods of the face, each with all arguments that stand at an edge of some range. */
final class AllCalls {
    private static final int[] THINGS = {Integer.MIN_VALUE, -1, 0, 1, 3, 4, 6, 9, 10, 20, 39, 40,
        Integer.MAX_VALUE};
    private static final int[] AMOUNTS = {Integer.MIN_VALUE, -1, 0, 1, 5, 6, 16, 17, 20, 21, 51,
        Integer.MAX_VALUE};
    private static final int[] POINTS = {-1, 0, 5, 6, 21};

    private final String what;
    private final Supplier<InkHall> made;
    private final String asked;
    private final String spent;

    private AllCalls(String what, Supplier<InkHall> made) {
        this.what = what;
        this.made = made;
        asked = Halls.asked(made.get());
        spent = Halls.spent(made.get());
    }

    /** Calls that throw, and calls that ask alone, leave the hall as it was. */
    static void changeNothing(String what, Supplier<InkHall> made) {
        AllCalls all = new AllCalls(what, made);
        for (Refusal.CallOn call : changing()) {
            all.check(call, false);
        }
        for (Refusal.CallOn call : asking()) {
            all.check(call, true);
        }
    }

    private void check(Refusal.CallOn call, boolean isAsking) {
        InkHall hall = made.get();
        String outcome = Check.outcome(() -> call.answer(hall));
        boolean isAnswer = outcome.matches("-?\\d+");
        Check.that(what + ": " + outcome, isAnswer || isDocumented(outcome));
        if (isAsking || !isAnswer) {
            Check.is(what + " behind " + outcome + ", asked", asked, Halls.asked(hall));
            InkHall other = made.get();
            Check.is(what + ", once more", outcome, Check.outcome(() -> call.answer(other)));
            Check.is(what + " behind " + outcome + ", spent", spent, Halls.spent(other));
        }
    }

    private static boolean isDocumented(String outcome) {
        return outcome.equals(Refusal.BOUNDS.getName()) || outcome.equals(Refusal.ARGUMENT.getName())
                || outcome.equals(Refusal.STATE.getName());
    }

    private static List<Refusal.CallOn> changing() {
        List<Refusal.CallOn> calls = new ArrayList<>();
        calls.add(InkHall::lift);
        calls.add(InkHall::letter);
        for (int thing : THINGS) {
            calls.add(h -> h.takeOut(thing));
            calls.add(h -> h.show(thing));
            for (int other : THINGS) {
                calls.add(h -> h.stroke(thing, other));
                calls.add(h -> h.write(thing, other));
                for (int amount : POINTS) {
                    calls.add(h -> h.mark(thing, other, amount));
                    calls.add(h -> h.vote(thing, other, amount));
                }
            }
            for (int amount : AMOUNTS) {
                calls.add(h -> h.pupil(thing, amount, amount % 2 == 0));
                calls.add(h -> h.print(thing, amount % 2 == 0, amount));
            }
        }
        return calls;
    }

    private static List<Refusal.CallOn> asking() {
        List<Refusal.CallOn> calls = new ArrayList<>();
        for (int thing : THINGS) {
            calls.add(h -> h.sheets(thing, false));
            calls.add(h -> h.sheets(thing, true));
            calls.add(h -> h.orderAnew(thing));
            calls.add(h -> h.grade(thing));
            calls.add(h -> h.lacks(thing));
            calls.add(h -> h.worth(thing));
            calls.add(h -> h.place(thing));
            calls.add(h -> h.at(thing));
            for (int other : THINGS) {
                calls.add(h -> h.strokeOf(thing, other));
                calls.add(h -> h.slips(thing, other));
            }
        }
        return calls;
    }
}

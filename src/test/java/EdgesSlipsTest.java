import java.util.Arrays;

/** The edges that the sentences of promises 10 and 11 name, a test for each sentence. */
public final class EdgesSlipsTest {
    private static final int[] SIX = {1, 12, 23, 34, 45, 56};

    public static void main(String[] args) {
        promise10();
        promise11();
        Sentences.end("EdgesSlipsTest");
    }

    private static void promise10() {
        Sentences.of("Promise 10: slips");
        Sentences.test("Counts slips of a script.", () -> {
            slips("none at all", new int[] {0, 0, 0, 0, 0, 0}, SIX);
            slips("nothing drawn", new int[] {6, 0, 0, 0, 0, 6});
            slips("all that there can be", new int[] {6, 8, 0, 0, 0, 14}, 67, 67, 67, 67, 67, 67, 67, 67);
            slips("all turned and the last one first", new int[] {0, 0, 6, 5, 0, 11}, 65, 54, 43, 32, 21, 10);
            slips("with two more", new int[] {0, 2, 6, 5, 0, 13}, 65, 54, 43, 32, 21, 10, 10, 78);
        });
        Sentences.test("`kind`: MISSING to RULING; 5 for all", () -> {
            Refusal.outside(Halls::sample, "kind", 0, 5, Refusal.ARGUMENT, kind -> h -> h.slips(1, kind));
            InkHall hall = ruledWrong();
            int[] due = {3, 4, 2, 1, 1, 11};
            int[] kinds = {InkHall.MISSING, InkHall.EXTRA, InkHall.TURNED, InkHall.ORDER, InkHall.RULING, 5};
            for (int i = 0; i < due.length; i++) {
                Check.is("kind " + kinds[i], due[i], hall.slips(0, kinds[i]));
            }
        });
        Sentences.test("Throws `IndexOutOfBoundsException` if there is no such script", () -> {
            Refusal.noScript(Halls::withScripts, script -> h -> h.slips(script, 0));
            Refusal.noScript(Halls::withScripts, script -> h -> h.slips(script, 5));
            for (int kind : new int[] {-1, 6}) {
                Refusal.is("no script, kind " + kind, Refusal.BOUNDS, h -> h.slips(4, kind));
                Refusal.is("no script, kind " + kind, Refusal.BOUNDS, h -> h.slips(-1, kind));
            }
        });
        Sentences.test("Throws `IllegalArgumentException` if kind is out of range", () -> {
            for (int kind : new int[] {-1, 6}) {
                Refusal.is("kind " + kind, Refusal.ARGUMENT, h -> h.slips(0, kind));
                Refusal.in(Halls::full, "kind " + kind, Refusal.ARGUMENT, h -> h.slips(39, kind));
            }
        });
    }

    /** The slips of a script of the letter SIX, by kinds, and of all. */
    private static void slips(String what, int[] due, int... strokes) {
        InkHall hall = Halls.withLetter(SIX);
        Halls.script(hall, 0, 0, strokes);
        for (int kind = 0; kind < due.length; kind++) {
            Check.is(what + ", kind " + kind, due[kind], hall.slips(0, kind));
        }
    }

    /** A script with a count of its own for each kind, but for ORDER and RULING. */
    private static InkHall ruledWrong() {
        InkHall hall = Halls.withLetters(0);
        Halls.letter(hall, SIX);
        hall.pupil(0, 12, true);
        hall.print(0, true, 1);
        Halls.script(hall, 0, 0, 32, 78, 10, 78, 34, 10, 1);
        return hall;
    }

    private static void promise11() {
        Sentences.of("Promise 11: orderAnew");
        Sentences.test("Returns the slips of ORDER, found by leaving out all sets of strokes.", () -> {
            order("nothing drawn", 0);
            order("one stroke", 0, 56);
            order("two in order", 0, 1, 12);
            order("two turned, in order", 0, 10, 65);
            order("two out of order", 1, 56, 1);
            order("all in order", 0, SIX);
            order("the last one first", 1, 56, 1, 12, 23, 34, 45);
            order("the first one last", 1, 12, 23, 34, 45, 56, 1);
            order("all the other way round", 5, 56, 45, 34, 23, 12, 1);
            order("the same with two more", 5, 56, 56, 45, 34, 23, 12, 1, 1);
            order("EXTRA alone", 0, 78, 67, 60, 2, 13, 24, 35, 46);
            order("EXTRA between", 1, 12, 78, 12, 1, 67, 21, 10, 78);
            Check.is("of the last script", 0, Halls.withScripts(40).orderAnew(39));
        });
        Sentences.test("Throws `IndexOutOfBoundsException` if there is no such script",
                () -> Refusal.noScript(Halls::withScripts, script -> h -> h.orderAnew(script)));
    }

    private static void order(String what, int due, int... strokes) {
        InkHall hall = Halls.withLetter(SIX);
        Halls.script(hall, 0, 0, strokes);
        Check.is(what + " " + Arrays.toString(strokes), due, hall.orderAnew(0));
        Check.is(what + ", as slips", due, hall.slips(0, InkHall.ORDER));
    }
}

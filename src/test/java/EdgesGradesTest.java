import java.util.Arrays;

/** The edges that the sentences of promises 12 to 15 name, a test for each sentence. */
public final class EdgesGradesTest {
    public static void main(String[] args) {
        promise12();
        promise12Throws();
        promise13();
        promise14();
        promise15();
        Sentences.end("EdgesGradesTest");
    }

    private static void promise12() {
        Sentences.of("Promise 12: mark");
        Sentences.test("Marks a script.", () -> {
            InkHall hall = Halls.withScripts(40);
            hall.mark(5, 39, 20);
            Check.is("the last script", 1, hall.lacks(39));
            Check.is("the one before it", 2, hall.lacks(38));
        });
        Sentences.test("`mark`: 0 to 20", () -> {
            Refusal.outside(Halls::sample, "mark", 0, 20, Refusal.ARGUMENT, mark -> h -> h.mark(0, 3, mark));
            Refusal.outside(Halls::sample, "mark", 0, 20, Refusal.ARGUMENT, mark -> h -> h.mark(0, 2, mark));
            Refusal.outside(Halls::sample, "mark", 0, 20, Refusal.ARGUMENT, mark -> h -> h.mark(0, 1, mark));
            Check.is("the lowest ones", 0, Halls.marked(0, 0).grade(0));
            Check.is("the highest ones", 20, Halls.marked(20, 20).grade(0));
        });
        Sentences.test("Returns how many marks it has then.", () -> {
            InkHall hall = Halls.withScripts(1);
            Check.is("the first one", 1, hall.mark(0, 0, 0));
            Check.is("the second one", 2, hall.mark(1, 0, 20));
            Check.is("the third one", 3, hall.mark(2, 0, 0));
            hall.takeOut(0);
            Check.is("again the third one", 3, hall.mark(3, 0, 0));
            hall.takeOut(1);
            hall.takeOut(2);
            Check.is("again the second one", 2, hall.mark(4, 0, 0));
        });
        Sentences.test("Throws `IndexOutOfBoundsException` if there is no such examiner or script", () -> {
            Refusal.outside(() -> Halls.withScripts(1), "examiner", 0, 5, Refusal.BOUNDS,
                    examiner -> h -> h.mark(examiner, 0, 5));
            Refusal.noScript(Halls::withScripts, script -> h -> h.mark(5, script, 5));
            for (int mark : new int[] {-1, 21}) {
                Refusal.is("no examiner, mark " + mark, Refusal.BOUNDS, h -> h.mark(6, 0, mark));
                Refusal.is("no script, mark " + mark, Refusal.BOUNDS, h -> h.mark(3, 4, mark));
            }
            Refusal.is("no examiner, where no more are taken", Refusal.BOUNDS, h -> h.mark(-1, 0, 5));
            Refusal.is("no script, by one taken out", Refusal.BOUNDS, h -> h.mark(3, -1, 5));
        });
        Sentences.test("Throws `IllegalArgumentException` if mark is out of range", () -> {
            for (int mark : new int[] {-1, 21}) {
                Refusal.is("mark " + mark, Refusal.ARGUMENT, h -> h.mark(5, 3, mark));
                Refusal.is(mark + " by one taken out", Refusal.ARGUMENT, h -> h.mark(3, 3, mark));
                Refusal.is(mark + " by one who has marked", Refusal.ARGUMENT, h -> h.mark(2, 2, mark));
                Refusal.is(mark + " where no more are taken", Refusal.ARGUMENT, h -> h.mark(5, 0, mark));
            }
        });
    }

    private static void promise12Throws() {
        Sentences.test("Throws `IllegalStateException` if the examiner was taken out,", () -> {
            for (int examiner : new int[] {0, 5}) {
                Refusal.in(() -> without(examiner), "examiner " + examiner, Refusal.STATE,
                        h -> h.mark(examiner, 0, 5));
                Check.is("another one", 1, without(examiner).mark(5 - examiner, 0, 5));
            }
            InkHall late = new InkHall();
            late.takeOut(5);
            late.pupil(0, 16, false);
            late.print(2, false, 1);
            Halls.letter(late, 8);
            late.write(0, 0);
            Check.refuses("of a script that came later", Refusal.STATE, () -> late.mark(5, 0, 5));
        });
        Sentences.test("or has marked it,", () -> {
            for (int[] marks : new int[][] {{5}, {5, 9}, {0, 20}}) {
                for (int examiner = 0; examiner < marks.length; examiner++) {
                    int each = examiner;
                    Refusal.in(() -> Halls.marked(marks), "once more", Refusal.STATE, h -> h.mark(each, 0, 5));
                }
            }
            InkHall two = Halls.withScripts(2);
            two.mark(0, 0, 5);
            Check.is("another script", 1, two.mark(0, 1, 5));
        });
        Sentences.test("or no more marks are taken", () -> {
            for (int[] full : new int[][] {{5, 5}, {5, 8}, {8, 5}, {5, 9, 5}, {9, 5, 0}, {0, 20, 20}}) {
                Refusal.in(() -> Halls.marked(full), "behind " + Arrays.toString(full), Refusal.STATE,
                        h -> h.mark(5, 0, 5));
            }
            for (int[] open : new int[][] {{}, {5}, {5, 9}, {9, 5}, {0, 20}}) {
                Check.is("behind " + Arrays.toString(open), open.length + 1, Halls.marked(open).mark(5, 0, 5));
            }
        });
    }

    private static InkHall without(int examiner) {
        InkHall hall = Halls.withScripts(1);
        hall.takeOut(examiner);
        return hall;
    }

    private static void promise13() {
        Sentences.of("Promise 13: grade");
        Sentences.test("Returns the grade of a script.", () -> {
            grade(0, 0, 0);
            grade(20, 20, 20);
            grade(18, 17, 20);
            grade(18, 20, 17);
            grade(1, 0, 3);
            grade(9, 5, 9, 20);
            grade(5, 9, 5, 0);
        });
        Sentences.test("Returns the grade; NONE as long as there is none.", () -> {
            grade(InkHall.NONE);
            grade(InkHall.NONE, 0);
            grade(InkHall.NONE, 20);
            grade(InkHall.NONE, 5, 9);
            grade(InkHall.NONE, 9, 5);
            grade(InkHall.NONE, 20, 0);
            grade(6, 5, 8);
            grade(5, 5, 9, 5);
            InkHall hall = Halls.marked(5, 8);
            hall.takeOut(1);
            Check.is("one is gone", InkHall.NONE, hall.grade(0));
            hall.takeOut(0);
            Check.is("all are gone", InkHall.NONE, hall.grade(0));
        });
        Sentences.test("Throws `IndexOutOfBoundsException` if there is no such script",
                () -> Refusal.noScript(Halls::withScripts, script -> h -> h.grade(script)));
    }

    private static void grade(int due, int... marks) {
        Check.is("the grade of " + Arrays.toString(marks), due, Halls.marked(marks).grade(0));
    }

    private static void promise14() {
        Sentences.of("Promise 14: lacks");
        Sentences.test("Returns how many marks a script lacks yet.", () -> {
            lacks(2);
            lacks(1, 0);
            lacks(1, 20);
            lacks(0, 5, 5);
            lacks(0, 5, 8);
            lacks(0, 8, 5);
            lacks(1, 5, 9);
            lacks(1, 9, 5);
            lacks(1, 0, 20);
            lacks(0, 5, 9, 0);
            lacks(0, 0, 20, 20);
        });
        Sentences.test("Throws `IndexOutOfBoundsException` if there is no such script",
                () -> Refusal.noScript(Halls::withScripts, script -> h -> h.lacks(script)));
    }

    private static void lacks(int due, int... marks) {
        Check.is("what lacks with " + Arrays.toString(marks), due, Halls.marked(marks).lacks(0));
    }

    private static void promise15() {
        Sentences.of("Promise 15: takeOut");
        Sentences.test("Takes an examiner out.", () -> {
            InkHall hall = Halls.marked(5, 5);
            hall.takeOut(1);
            Check.is("the mark is gone", 1, hall.lacks(0));
            Check.refuses("the examiner marks no more", Refusal.STATE, () -> hall.mark(1, 0, 5));
            Check.refuses("the other one has marked still", Refusal.STATE, () -> hall.mark(0, 0, 5));
        });
        Sentences.test("Returns of how many scripts the grade is another one by that,", () -> {
            Check.is("without scripts", 0, new InkHall().takeOut(0));
            Check.is("without marks", 0, Halls.withScripts(1).takeOut(0));
            Check.is("by one who has not marked", 0, Halls.marked(5, 5).takeOut(2));
            Check.is("5 and 9 with 6: 7 of 9 and 6", 1, Halls.marked(5, 9, 6).takeOut(0));
            Check.is("9, 5 and 4: 4 of 5 and 4", 1, Halls.marked(9, 5, 4).takeOut(0));
            Check.is("the middle one of 5, 9 and 9, as before", 0, Halls.marked(5, 9, 9).takeOut(0));
            Check.is("10 of 10, 14 and 10, as before", 0, Halls.marked(10, 14, 10).takeOut(1));
            Check.is("10 of 0, 10 and 11, as before", 0, Halls.marked(0, 10, 11).takeOut(0));
        });
        Sentences.test("or gone.", () -> {
            Check.is("one of two", 1, Halls.marked(5, 5).takeOut(1));
            Check.is("a grade of 0", 1, Halls.marked(0, 0).takeOut(0));
            Check.is("the third one", 1, Halls.marked(5, 9, 7).takeOut(2));
            Check.is("one of two that are apart then", 1, Halls.marked(5, 15, 9).takeOut(0));
            Check.is("there was none: one mark", 0, Halls.marked(5).takeOut(0));
            Check.is("there was none: two apart", 0, Halls.marked(5, 9).takeOut(0));
            int[] all = new int[40];
            InkHall hall = Halls.graded(all);
            Check.is("of all scripts", 40, hall.takeOut(0));
            Check.is("there are none then", 0, hall.takeOut(1));
        });
        Sentences.test("Throws `IndexOutOfBoundsException` if there is no such examiner", () -> {
            Refusal.outside(Halls::full, "examiner", 0, 5, Refusal.BOUNDS, examiner -> h -> h.takeOut(examiner));
            Refusal.outside(InkHall::new, "examiner", 0, 5, Refusal.BOUNDS, examiner -> h -> h.takeOut(examiner));
        });
        Sentences.test("Throws `IllegalStateException` if that was done", () -> {
            for (int examiner : new int[] {0, 5}) {
                Refusal.in(() -> without(examiner), "once more", Refusal.STATE, h -> h.takeOut(examiner));
                Check.is("another one", 0, without(examiner).takeOut(5 - examiner));
                InkHall empty = new InkHall();
                empty.takeOut(examiner);
                Check.refuses("once more, without scripts", Refusal.STATE, () -> empty.takeOut(examiner));
            }
            InkHall hall = Halls.withScripts(1);
            for (int examiner = 0; examiner < 6; examiner++) {
                hall.takeOut(examiner);
            }
            for (int examiner = 0; examiner < 6; examiner++) {
                int each = examiner;
                Check.refuses("all are out", Refusal.STATE, () -> hall.takeOut(each));
                Check.refuses("nobody marks", Refusal.STATE, () -> hall.mark(each, 0, 5));
            }
        });
    }
}

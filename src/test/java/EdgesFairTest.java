import java.util.Arrays;

/** The edges that the sentences of promises 16 to 20 name, a test for each sentence. */
public final class EdgesFairTest {
    public static void main(String[] args) {
        promise16();
        promise17();
        promise17Throws();
        promise18();
        promise19();
        promise20();
        Sentences.end("EdgesFairTest");
    }

    private static void promise16() {
        Sentences.of("Promise 16: show");
        Sentences.test("Shows a script.", () -> {
            InkHall hall = Halls.graded(0, 20);
            Check.is("before", InkHall.NONE, hall.at(1));
            hall.show(0);
            Check.is("the one that is shown", 1, hall.place(0));
            Check.is("the other one", InkHall.NONE, hall.place(1));
        });
        Sentences.test("Returns how many are shown then.", () -> {
            InkHall hall = Halls.graded(new int[40]);
            for (int count = 1; count <= 40; count++) {
                Check.is("shown", count, hall.show(40 - count));
            }
            InkHall lost = Halls.graded(5, 5);
            lost.show(0);
            lost.takeOut(0);
            lost.mark(2, 1, 5);
            Check.is("with one that has lost its grade", 2, lost.show(1));
        });
        Sentences.test("Throws `IndexOutOfBoundsException` if there is no such script",
                () -> Refusal.noScript(count -> Halls.graded(new int[count]), script -> h -> h.show(script)));
        Sentences.test("Throws `IllegalStateException` if it is shown,", () -> {
            Refusal.in(() -> Halls.shown(0), "once more", Refusal.STATE, h -> h.show(0));
            Refusal.in(Halls::full, "the last one once more", Refusal.STATE, h -> h.show(39));
            Refusal.is("one that has lost its grade", Refusal.STATE, h -> h.show(1));
        });
        Sentences.test("or has no grade", () -> {
            for (int[] marks : new int[][] {{}, {0}, {20}, {5, 9}, {9, 5}, {0, 20}}) {
                Refusal.in(() -> Halls.marked(marks), "with " + Arrays.toString(marks), Refusal.STATE,
                        h -> h.show(0));
            }
            for (int[] marks : new int[][] {{0, 0}, {5, 8}, {8, 5}, {5, 9, 0}, {0, 20, 0}}) {
                Check.is("with " + Arrays.toString(marks), 1, Halls.marked(marks).show(0));
            }
            InkHall lost = Halls.marked(5, 5);
            lost.takeOut(0);
            Check.refuses("its grade is gone", Refusal.STATE, () -> lost.show(0));
        });
    }

    private static void promise17() {
        Sentences.of("Promise 17: vote");
        Sentences.test("Lets a class vote.", () -> {
            InkHall hall = Halls.shown(0, 0);
            hall.vote(3, 1, 1);
            Check.is("the script", 2, hall.worth(1));
            Check.is("another one", 0, hall.worth(0));
        });
        Sentences.test("`group`: the class, 0 to 3", () -> {
            // In a full hall script 38 is by a pupil of class 2, and script 39 by one of class 3.
            Refusal.outside(Halls::sample, "class", 0, 3, Refusal.BOUNDS, group -> h -> h.vote(group, 1, 1));
            for (int group = 0; group < 4; group++) {
                Check.is("class " + group, 5, Halls.full().vote(group, group == 2 ? 39 : 38, 5));
            }
        });
        Sentences.test("`points`: 0 to 5", () -> {
            Refusal.outside(Halls::sample, "points", 0, 5, Refusal.ARGUMENT, points -> h -> h.vote(3, 0, points));
            Refusal.outside(Halls::sample, "points", 0, 5, Refusal.ARGUMENT, points -> h -> h.vote(3, 1, points));
        });
        Sentences.test("Returns all points of the script then.", () -> {
            InkHall hall = Halls.shown(5, 5);
            Check.is("none", 0, hall.vote(1, 0, 0));
            Check.is("of one class", 5, hall.vote(1, 0, 5));
            Check.is("of two", 10, hall.vote(2, 0, 5));
            Check.is("of all that can vote", 15, hall.vote(3, 0, 5));
            Check.is("of a class that votes once more", 11, hall.vote(1, 0, 1));
            Check.is("of a class that takes all back", 10, hall.vote(1, 0, 0));
            Check.is("of the other script", 1, hall.vote(3, 1, 1));
        });
        Sentences.test("Throws `IndexOutOfBoundsException` if there is no such class or script", () -> {
            Refusal.noScript(count -> Halls.shown(new int[count]), script -> h -> h.vote(3, script, 1));
            for (int group : new int[] {-1, 4}) {
                Refusal.is("no class, 6 points", Refusal.BOUNDS, h -> h.vote(group, 0, 6));
                Refusal.is("no class, -1 points", Refusal.BOUNDS, h -> h.vote(group, 0, -1));
                Refusal.is("no class, not shown", Refusal.BOUNDS, h -> h.vote(group, 2, 1));
                Refusal.is("no class, no script", Refusal.BOUNDS, h -> h.vote(group, 4, 1));
            }
            for (int script : new int[] {-1, 4}) {
                Refusal.is("no script, 6 points", Refusal.BOUNDS, h -> h.vote(0, script, 6));
                Refusal.is("no script, -1 points", Refusal.BOUNDS, h -> h.vote(0, script, -1));
            }
        });
        Sentences.test("Throws `IllegalArgumentException` if points is out of range", () -> {
            for (int points : new int[] {-1, 6}) {
                Refusal.is(points + " points", Refusal.ARGUMENT, h -> h.vote(3, 0, points));
                Refusal.is(points + " points for one not shown", Refusal.ARGUMENT, h -> h.vote(3, 2, points));
                Refusal.is(points + " points for the own class", Refusal.ARGUMENT, h -> h.vote(0, 0, points));
            }
        });
    }

    private static void promise17Throws() {
        Sentences.test("Throws `IllegalStateException` if it is not shown,", () -> {
            for (int points : new int[] {0, 5}) {
                Refusal.in(() -> Halls.graded(5, 5), "with a grade", Refusal.STATE, h -> h.vote(3, 0, points));
                Refusal.in(() -> Halls.withScripts(1), "without one", Refusal.STATE, h -> h.vote(3, 0, points));
                Refusal.in(Halls::full, "not shown", Refusal.STATE, h -> h.vote(3, 37, points));
                Check.is("shown", points, Halls.shown(5).vote(3, 0, points));
            }
        });
        Sentences.test("or is by a pupil of the class", () -> {
            for (int points : new int[] {0, 5}) {
                Refusal.is("class 0 for its own", Refusal.STATE, h -> h.vote(0, 0, points));
                Refusal.is("class 1 for its own, without a grade", Refusal.STATE, h -> h.vote(1, 1, points));
                Refusal.in(Halls::full, "class 3 for its own", Refusal.STATE, h -> h.vote(3, 39, points));
                Check.is("class 2 for one of class 3", points, Halls.full().vote(2, 39, points));
            }
        });
    }

    private static void promise18() {
        Sentences.of("Promise 18: worth");
        Sentences.test("Returns the worth of a script.", () -> {
            InkHall best = Halls.shown(20);
            Check.is("without points", 60, best.worth(0));
            for (int group = 1; group < 4; group++) {
                best.vote(group, 0, 5);
            }
            Check.is("the most", 90, best.worth(0));
        });
        Sentences.test("Returns the worth, perhaps below 0;", () -> {
            Check.is("of 0", 0, Halls.shown(0).worth(0));
            Check.is("just below", -1, withSlips(8, 7, 8).worth(0));
            Check.is("the least, with 6, 8 and 1 slips", -15, poorest().worth(0));
        });
        Sentences.test("NOTHING if it has no grade,", () -> {
            Check.is("the number of it", -9999, InkHall.NOTHING);
            InkHall hall = Halls.shown(0, 5);
            hall.vote(1, 0, 5);
            hall.takeOut(0);
            Check.is("its grade is gone", InkHall.NOTHING, hall.worth(0));
            hall.mark(2, 0, 0);
            Check.is("a grade of 0 again, and its points", 10, hall.worth(0));
        });
        Sentences.test("or is not shown", () -> {
            InkHall hall = Halls.graded(20);
            Check.is("with a grade", InkHall.NOTHING, hall.worth(0));
            hall.show(0);
            Check.is("shown then", 60, hall.worth(0));
            Check.is("without a grade", InkHall.NOTHING, Halls.withScripts(1).worth(0));
        });
        Sentences.test("Throws `IndexOutOfBoundsException` if there is no such script",
                () -> Refusal.noScript(count -> Halls.shown(new int[count]), script -> h -> h.worth(script)));
    }

    /** A shown script with a grade of 0, of a letter of one stroke. */
    private static InkHall withSlips(int letter, int... strokes) {
        InkHall hall = Halls.withLetter(letter);
        Halls.script(hall, 0, 0, strokes);
        return shownWithZero(hall);
    }

    /** As many slips as there can be, of which none is paid for by a grade or by points. */
    private static InkHall poorest() {
        InkHall hall = new InkHall();
        Halls.letter(hall, 1, 12, 23, 34, 45, 56);
        hall.pupil(0, 16, false);
        hall.print(0, false, 1);
        Halls.script(hall, 0, 0, 78, 78, 78, 78, 78, 78, 78, 78);
        return shownWithZero(hall);
    }

    private static InkHall shownWithZero(InkHall hall) {
        hall.mark(0, 0, 0);
        hall.mark(1, 0, 0);
        hall.show(0);
        return hall;
    }

    private static void promise19() {
        Sentences.of("Promise 19: place");
        Sentences.test("Returns the place of a script.", () -> {
            InkHall hall = Halls.shown(5, 7, 6);
            Check.is("the last one", 3, hall.place(0));
            Check.is("the first one", 1, hall.place(1));
            Check.is("the middle one", 2, hall.place(2));
        });
        Sentences.test("Returns the place, from 1;", () -> {
            Check.is("one alone", 1, Halls.shown(0).place(0));
            Check.is("one alone, far below 0", 1, poorest().place(0));
            InkHall hall = Halls.shown(new int[40]);
            Check.is("the first of 40", 1, hall.place(0));
            Check.is("the last of 40", 40, hall.place(39));
            hall.vote(1, 39, 1);
            Check.is("the last one, with a point", 1, hall.place(39));
            Check.is("the first one then", 2, hall.place(0));
            Check.is("the one before the last then", 40, hall.place(38));
        });
        Sentences.test("NONE if it has no grade,", () -> {
            InkHall hall = Halls.shown(5, 5);
            hall.takeOut(0);
            hall.mark(2, 1, 5);
            Check.is("its grade is gone", InkHall.NONE, hall.place(0));
            Check.is("the other one has one again", 1, hall.place(1));
        });
        Sentences.test("or is not shown", () -> {
            InkHall hall = Halls.graded(20, 0);
            hall.show(1);
            Check.is("with a grade", InkHall.NONE, hall.place(0));
            Check.is("the one that is shown", 1, hall.place(1));
            Check.is("without marks", InkHall.NONE, Halls.withScripts(1).place(0));
        });
        Sentences.test("Throws `IndexOutOfBoundsException` if there is no such script",
                () -> Refusal.noScript(count -> Halls.shown(new int[count]), script -> h -> h.place(script)));
    }

    private static void promise20() {
        Sentences.of("Promise 20: at");
        Sentences.test("Returns the script at a place.", () -> {
            InkHall hall = Halls.shown(5, 7, 5);
            int[] due = {1, 0, 2};
            for (int place = 1; place <= 3; place++) {
                Check.is("at " + place, due[place - 1], hall.at(place));
            }
        });
        Sentences.test("`place`: 1 for the first one", () -> {
            Check.is("one alone", 0, Halls.shown(5).at(1));
            Check.is("the last one with the most worth", 39, mostWorthLast().at(1));
        });
        Sentences.test("Returns the script; NONE without one.", () -> {
            Check.is("without scripts", InkHall.NONE, new InkHall().at(1));
            Check.is("without a shown one", InkHall.NONE, Halls.graded(5).at(1));
            for (int count : new int[] {1, 2, 39, 40}) {
                InkHall hall = Halls.shown(new int[count]);
                Check.is("the last place of " + count, count - 1, hall.at(count));
                for (int place : new int[] {count + 1, count + 2, 41, Integer.MAX_VALUE}) {
                    Check.is("behind the last place of " + count, InkHall.NONE, hall.at(place));
                }
            }
            InkHall lost = Halls.shown(5, 5);
            lost.takeOut(0);
            lost.mark(2, 1, 5);
            Check.is("one has lost its grade", 1, lost.at(1));
            Check.is("so there is no second place", InkHall.NONE, lost.at(2));
        });
        Sentences.test("Throws `IndexOutOfBoundsException` if place is below 1", () -> {
            for (int place : new int[] {0, -1, Integer.MIN_VALUE}) {
                Refusal.in(InkHall::new, "at " + place, Refusal.BOUNDS, h -> h.at(place));
                Refusal.is("at " + place, Refusal.BOUNDS, h -> h.at(place));
                Refusal.in(Halls::full, "at " + place, Refusal.BOUNDS, h -> h.at(place));
            }
            // The number of a place that a script without a grade has is none to ask for.
            Refusal.in(() -> Halls.withScripts(2), "at NONE", Refusal.BOUNDS, h -> h.at(InkHall.NONE));
        });
    }

    private static InkHall mostWorthLast() {
        int[] grades = new int[40];
        grades[39] = 1;
        return Halls.shown(grades);
    }
}

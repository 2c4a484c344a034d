import java.util.Arrays;

/** The edges that the sentences of promises 1 to 5 name, a test for each sentence. */
public final class EdgesLettersTest {
    private static final int[] LINE = {1, 12, 23, 34, 45, 56, 67, 78};

    public static void main(String[] args) {
        promise1();
        promise2();
        promise3();
        promise4();
        promise5();
        Sentences.end("EdgesLettersTest");
    }

    private static void promise1() {
        Sentences.of("Promise 1: A new object");
        Sentences.test("No letters, pupils, sheets and scripts.", () -> {
            Check.refuses("no letter", Refusal.BOUNDS, () -> new InkHall().strokeOf(0, 0));
            Check.refuses("no pupil", Refusal.BOUNDS, () -> Halls.withLetters(1).write(0, 0));
            Check.is("no place", InkHall.NONE, new InkHall().at(1));
            Check.is("no sheet of any band", "0 0 0 0 0 0", sheets(new InkHall()));
            Refusal.CallOn[] calls = {h -> h.slips(0, 5), h -> h.orderAnew(0), h -> h.mark(0, 0, 5),
                h -> h.grade(0), h -> h.lacks(0), h -> h.show(0), h -> h.vote(0, 0, 5), h -> h.worth(0),
                h -> h.place(0)};
            for (Refusal.CallOn call : calls) {
                Refusal.in(InkHall::new, "no script", Refusal.BOUNDS, call);
            }
        });
    }

    private static String sheets(InkHall hall) {
        StringBuilder text = new StringBuilder();
        for (int band = 0; band < 3; band++) {
            text.append(hall.sheets(band, false)).append(' ').append(hall.sheets(band, true)).append(' ');
        }
        return text.toString().trim();
    }

    private static void promise2() {
        Sentences.of("Promise 2: stroke");
        Sentences.test("Puts a stroke to the pen.", () -> {
            InkHall hall = new InkHall();
            hall.stroke(8, 0);
            Check.is("the letter of it", 0, hall.letter());
            Check.is("its stroke", 80, hall.strokeOf(0, 0));
        });
        Sentences.test("`from`: 0 to 8", () -> Refusal.outside(Halls::sample, "from", 0, 8, Refusal.BOUNDS,
                from -> h -> h.stroke(from, 4)));
        Sentences.test("`to`: another dot", () -> {
            Refusal.outside(Halls::sample, "to", 0, 8, Refusal.BOUNDS, to -> h -> h.stroke(4, to));
            for (int from : new int[] {0, 4, 8}) {
                for (int to = Math.max(0, from - 1); to <= Math.min(8, from + 1); to++) {
                    strokeBeside(from, to);
                }
            }
        });
        Sentences.test("Returns how many strokes it has then.", () -> {
            InkHall hall = new InkHall();
            for (int count = 1; count <= 8; count++) {
                Check.is("strokes then", count, hall.stroke(0, 1));
            }
            hall.lift();
            Check.is("strokes behind lift", 1, hall.stroke(0, 1));
        });
        Sentences.test("Throws `IndexOutOfBoundsException` if there is no such dot", () -> {
            for (int dot : new int[] {-1, 9}) {
                Refusal.is("from no dot", Refusal.BOUNDS, h -> h.stroke(dot, 0));
                Refusal.is("to no dot", Refusal.BOUNDS, h -> h.stroke(0, dot));
                Refusal.is("from no dot to the same, " + dot, Refusal.BOUNDS, h -> h.stroke(dot, dot));
                Refusal.in(Halls::full, "from no dot, a ninth one", Refusal.BOUNDS, h -> h.stroke(dot, 0));
                Refusal.in(Halls::full, "to no dot, a ninth one", Refusal.BOUNDS, h -> h.stroke(0, dot));
            }
        });
        Sentences.test("Throws `IllegalArgumentException` if both are the same", () -> {
            for (int dot : new int[] {0, 8}) {
                Refusal.is("the same " + dot, Refusal.ARGUMENT, h -> h.stroke(dot, dot));
                Refusal.in(Halls::full, "the same, a ninth one", Refusal.ARGUMENT, h -> h.stroke(dot, dot));
            }
        });
        Sentences.test("Throws `IllegalStateException` if it has 8", () -> {
            InkHall seven = new InkHall();
            Halls.draw(seven, Arrays.copyOf(LINE, 7));
            Check.is("the eighth one", 8, seven.stroke(7, 8));
            Refusal.in(Halls::full, "the ninth one", Refusal.STATE, h -> h.stroke(0, 1));
            Refusal.in(EdgesLettersTest::withEight, "the ninth one", Refusal.STATE, h -> h.stroke(0, 1));
            Check.refuses("the ninth one of another hall", Refusal.STATE, () -> seven.stroke(8, 0));
            Check.is("all 8 taken off", 8, seven.lift());
            Check.is("the next one", 1, seven.stroke(8, 0));
        });
    }

    /** A hall that can tell by the slips of a script which 8 strokes the pen has. */
    private static InkHall withEight() {
        return drawn(Halls.withLetter(12, 23, 34, 45, 56, 78), 1, 21, 23, 34, 45, 56, 67, 78);
    }

    /** From a dot to one of its neighbours, or to itself. */
    private static void strokeBeside(int from, int to) {
        if (from == to) {
            Refusal.is("to the same dot " + to, Refusal.ARGUMENT, h -> h.stroke(from, to));
        } else {
            Check.is("to another dot " + to, 1, new InkHall().stroke(from, to));
        }
    }

    private static void promise3() {
        Sentences.of("Promise 3: lift");
        Sentences.test("Takes all strokes off the pen; returns how many it had.", () -> {
            InkHall hall = new InkHall();
            Check.is("the empty pen", 0, hall.lift());
            Check.is("the empty pen again", 0, hall.lift());
            for (int count : new int[] {1, 7, 8}) {
                Halls.draw(hall, Arrays.copyOf(LINE, count));
                Check.is("the pen with " + count, count, hall.lift());
                Check.is("the pen then", 0, hall.lift());
                Check.refuses("a letter then", Refusal.STATE, hall::letter);
            }
            Halls.draw(hall, 1, 12, 23);
            Check.is("refused strokes are none", 3, liftRefused(hall));
            Check.is("of a full hall", 8, Halls.full().lift());
        });
    }

    private static int liftRefused(InkHall hall) {
        Check.refuses("no dot", Refusal.BOUNDS, () -> hall.stroke(9, 0));
        Check.refuses("the same dot", Refusal.ARGUMENT, () -> hall.stroke(0, 0));
        return hall.lift();
    }

    private static void promise4() {
        Sentences.of("Promise 4: letter");
        Sentences.test("Makes a letter of what the pen has.", () -> {
            for (int count : new int[] {1, 6}) {
                InkHall hall = new InkHall();
                Halls.letter(hall, Arrays.copyOf(LINE, count));
                Check.is("the last one", LINE[count - 1], hall.strokeOf(0, count - 1));
                Check.is("the one behind it", InkHall.NONE, hall.strokeOf(0, count));
                Check.is("the pen then", 0, hall.lift());
            }
        });
        Sentences.test("Returns its number.", () -> {
            InkHall hall = new InkHall();
            for (int letter = 0; letter < 10; letter++) {
                Check.is("number", letter, Halls.letter(hall, 10 + letter % 2 * 2));
            }
        });
        Sentences.test("Throws `IllegalStateException` if the pen has no strokes,", () -> {
            Refusal.in(InkHall::new, "without strokes", Refusal.STATE, InkHall::letter);
            Refusal.in(() -> Halls.withLetters(9), "behind a letter", Refusal.STATE, InkHall::letter);
            Check.is("with one", 0, Halls.letter(new InkHall(), 1));
        });
        Sentences.test("more than 6,", () -> {
            Check.is("with 6", 0, Halls.letter(new InkHall(), Arrays.copyOf(LINE, 6)));
            for (int count : new int[] {7, 8}) {
                Refusal.in(() -> withPen(Arrays.copyOf(LINE, count)), "with " + count, Refusal.STATE,
                        InkHall::letter);
            }
        });
        Sentences.test("or two on one line,", () -> {
            int[][] twice = {{1, 1}, {1, 10}, {80, 8}, {1, 2, 3, 4, 5, 1}, {1, 2, 3, 4, 5, 10},
                {1, 2, 3, 4, 5, 50}, {1, 2, 2, 4, 5, 6}, {1, 1, 1, 1, 1, 1}};
            for (int[] strokes : twice) {
                Refusal.in(() -> withPen(strokes), Arrays.toString(strokes), Refusal.STATE, InkHall::letter);
            }
            int[][] once = {{1, 12}, {1, 2}, {1, 21}, {10, 20}, {12, 23, 31}, {1, 2, 3, 4, 5, 6}};
            for (int[] strokes : once) {
                Check.is(Arrays.toString(strokes), 0, Halls.letter(new InkHall(), strokes));
            }
        });
        Sentences.test("or there are 10 letters", () -> {
            InkHall nine = Halls.withLetters(9);
            Check.is("the tenth one", 9, Halls.letter(nine, 87));
            Refusal.in(() -> drawn(Halls.withLetters(10), 87), "the eleventh", Refusal.STATE,
                    InkHall::letter);
            nine.stroke(7, 8);
            Check.refuses("the eleventh of another hall", Refusal.STATE, nine::letter);
            Check.is("the pen keeps its stroke", 1, nine.lift());
            Check.is("the tenth stays", 87, nine.strokeOf(9, 0));
        });
    }

    private static InkHall withPen(int... strokes) {
        return drawn(new InkHall(), strokes);
    }

    private static InkHall drawn(InkHall hall, int... strokes) {
        Halls.draw(hall, strokes);
        return hall;
    }

    private static void promise5() {
        Sentences.of("Promise 5: strokeOf");
        Sentences.test("Returns a stroke of a letter: 10 times the dot from which it goes, and that to which"
                + " it goes, together.", () -> {
            for (int stroke : new int[] {1, 10, 8, 80, 78, 87}) {
                InkHall hall = new InkHall();
                Halls.letter(hall, stroke);
                Check.is("the stroke", stroke, hall.strokeOf(0, 0));
            }
        });
        Sentences.test("`place`: 0 for the first one", () -> {
            InkHall hall = withPen(12, 34, 56);
            hall.letter();
            Check.is("the first one", 12, hall.strokeOf(0, 0));
            Check.is("the second one", 34, hall.strokeOf(0, 1));
        });
        Sentences.test("Returns that; NONE behind the last one.", () -> {
            for (int count = 1; count <= 6; count++) {
                InkHall hall = new InkHall();
                Halls.letter(hall, Arrays.copyOf(LINE, count));
                Halls.draw(hall, LINE);
                Check.is("the last of " + count, LINE[count - 1], hall.strokeOf(0, count - 1));
                for (int place : new int[] {count, count + 1, 6, 7, 8, 9, Integer.MAX_VALUE}) {
                    Check.is("behind the last of " + count, InkHall.NONE, hall.strokeOf(0, place));
                }
            }
        });
        Sentences.test("Throws `IndexOutOfBoundsException` if there is no such letter,", () -> {
            Refusal.in(InkHall::new, "without letters", Refusal.BOUNDS, h -> h.strokeOf(0, 0));
            for (int count : new int[] {1, 9, 10}) {
                Refusal.outside(() -> Halls.withLetters(count), "letter", 0, count - 1, Refusal.BOUNDS,
                        letter -> h -> h.strokeOf(letter, 0));
            }
            Refusal.is("no letter, behind its last", Refusal.BOUNDS, h -> h.strokeOf(2, 6));
        });
        Sentences.test("or place is below 0", () -> {
            Check.is("0", 6, Halls.sample().strokeOf(0, 0));
            Refusal.is("-1", Refusal.BOUNDS, h -> h.strokeOf(0, -1));
            Refusal.is("far below", Refusal.BOUNDS, h -> h.strokeOf(1, Integer.MIN_VALUE));
            Refusal.is("of no letter", Refusal.BOUNDS, h -> h.strokeOf(2, -1));
        });
    }
}

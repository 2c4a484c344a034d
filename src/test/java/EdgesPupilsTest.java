/** The edges that the sentences of promises 6 to 9 name, a test for each sentence. */
public final class EdgesPupilsTest {
    public static void main(String[] args) {
        promise6();
        promise7();
        promise8();
        promise9();
        promise9Throws();
        Sentences.end("EdgesPupilsTest");
    }

    private static void promise6() {
        Sentences.of("Promise 6: pupil");
        Sentences.test("Tells a pupil.", () -> {
            InkHall hall = Halls.withPupils(0);
            hall.print(2, false, 1);
            Check.refuses("before one is told", Refusal.BOUNDS, () -> hall.write(0, 0));
            hall.pupil(3, 12, false);
            Check.is("then", 0, hall.write(0, 0));
        });
        Sentences.test("`group`: the class, 0 to 3", () -> {
            Refusal.outside(Halls::sample, "class", 0, 3, Refusal.BOUNDS, group -> h -> h.pupil(group, 9, true));
            for (int group : new int[] {0, 3}) {
                InkHall hall = shownOf(group);
                Check.refuses("the own class " + group, Refusal.STATE, () -> hall.vote(group, 0, 1));
                Check.is("another one", 1, hall.vote(3 - group, 0, 1));
            }
        });
        Sentences.test("`age`: 5 to 16", () -> {
            Refusal.outside(Halls::sample, "age", 5, 16, Refusal.ARGUMENT, age -> h -> h.pupil(0, age, true));
            Refusal.outside(Halls::sample, "age", 5, 16, Refusal.ARGUMENT, age -> h -> h.pupil(3, age, false));
        });
        Sentences.test("Returns its number.", () -> {
            InkHall hall = new InkHall();
            for (int pupil = 0; pupil < 20; pupil++) {
                Check.is("number", pupil, hall.pupil(3, 5 + pupil % 12, true));
            }
        });
        Sentences.test("Throws `IndexOutOfBoundsException` if there is no such class", () -> {
            for (int group : new int[] {-1, 4}) {
                Refusal.is("class " + group, Refusal.BOUNDS, h -> h.pupil(group, 5, true));
                Refusal.is("class " + group + " and age 4", Refusal.BOUNDS, h -> h.pupil(group, 4, true));
                Refusal.is("class " + group + " and age 17", Refusal.BOUNDS, h -> h.pupil(group, 17, true));
                Refusal.in(Halls::full, "class " + group + " behind the last pupil", Refusal.BOUNDS,
                        h -> h.pupil(group, 5, true));
            }
        });
        Sentences.test("Throws `IllegalArgumentException` if age is out of range", () -> {
            for (int age : new int[] {4, 17}) {
                Refusal.is("age " + age, Refusal.ARGUMENT, h -> h.pupil(0, age, true));
                Refusal.in(Halls::full, "age " + age + " behind the last pupil", Refusal.ARGUMENT,
                        h -> h.pupil(0, age, true));
            }
        });
        Sentences.test("Throws `IllegalStateException` if there are 20", () -> {
            Check.is("the last one", 19, Halls.withPupils(19).pupil(0, 16, true));
            Refusal.in(() -> Halls.withPupils(20), "one more", Refusal.STATE, h -> h.pupil(0, 16, true));
            Refusal.in(Halls::full, "one more of a full hall", Refusal.STATE, h -> h.pupil(3, 5, false));
            InkHall hall = Halls.withPupils(20);
            Check.refuses("one more", Refusal.STATE, () -> hall.pupil(0, 16, false));
            hall.print(2, false, 1);
            Check.refuses("it is not told", Refusal.BOUNDS, () -> hall.write(20, 0));
            Check.is("the last one is", 0, hall.write(19, 0));
        });
    }

    /** A shown script by a pupil of that class. */
    private static InkHall shownOf(int group) {
        InkHall hall = new InkHall();
        Halls.letter(hall, 8);
        hall.pupil(group, 16, false);
        hall.print(2, false, 1);
        Halls.script(hall, 0, 0, 8);
        hall.mark(0, 0, 0);
        hall.mark(1, 0, 0);
        hall.show(0);
        return hall;
    }

    private static void promise7() {
        Sentences.of("Promise 7: print");
        Sentences.test("Prints sheets.", () -> {
            InkHall hall = new InkHall();
            hall.print(2, true, 1);
            Check.is("sheets", 1, hall.sheets(2, true));
        });
        Sentences.test("`band`: 0 to 2", () -> {
            for (boolean isLeft : new boolean[] {false, true}) {
                Refusal.outside(Halls::sample, "band", 0, 2, Refusal.BOUNDS,
                        band -> h -> h.print(band, isLeft, 1));
            }
        });
        Sentences.test("`sheets`: 1 to 50", () -> {
            for (boolean isLeft : new boolean[] {false, true}) {
                Refusal.outside(Halls::sample, "sheets", 1, 50, Refusal.ARGUMENT,
                        sheets -> h -> h.print(0, isLeft, sheets));
            }
            Check.is("1", 1, new InkHall().print(0, true, 1));
            Check.is("50", 50, new InkHall().print(0, true, 50));
        });
        Sentences.test("Returns how many of them there are then.", () -> {
            InkHall hall = new InkHall();
            hall.print(1, true, 50);
            hall.print(0, false, 50);
            Check.is("the first ones", 1, hall.print(1, false, 1));
            Check.is("more than at once", 51, hall.print(1, false, 50));
            Check.is("and more", 101, hall.print(1, false, 50));
            InkHall many = new InkHall();
            for (int call = 1; call < 512; call++) {
                many.print(2, true, 50);
            }
            Check.is("as many as can be", 25600, many.print(2, true, 50));
        });
        Sentences.test("Throws `IndexOutOfBoundsException` if there is no such band", () -> {
            for (int band : new int[] {-1, 3}) {
                Refusal.is("band " + band, Refusal.BOUNDS, h -> h.print(band, true, 1));
                Refusal.is("band " + band + " and no sheets", Refusal.BOUNDS, h -> h.print(band, true, 0));
                Refusal.is("band " + band + " and 51 sheets", Refusal.BOUNDS, h -> h.print(band, false, 51));
            }
        });
        Sentences.test("Throws `IllegalArgumentException` if sheets is out of range", () -> {
            for (int sheets : new int[] {-1, 0, 51}) {
                Refusal.is(sheets + " sheets", Refusal.ARGUMENT, h -> h.print(0, true, sheets));
                Refusal.is(sheets + " sheets", Refusal.ARGUMENT, h -> h.print(2, false, sheets));
            }
        });
    }

    private static void promise8() {
        Sentences.of("Promise 8: sheets");
        Sentences.test("Returns how many sheets there are.", () -> {
            for (int band = 0; band < 3; band++) {
                InkHall hall = Halls.withPupils(1);
                int age = new int[] {5, 8, 12}[band];
                hall.pupil(0, age, true);
                Check.is("at first", 0, hall.sheets(band, true));
                hall.print(band, true, 2);
                Check.is("printed", 2, hall.sheets(band, true));
                hall.write(1, 0);
                Check.is("one is taken", 1, hall.sheets(band, true));
                hall.write(1, 0);
                Check.is("the last one is taken", 0, hall.sheets(band, true));
                Check.refuses("without a sheet", Refusal.STATE, () -> hall.write(1, 0));
                Check.is("none is taken then", 0, hall.sheets(band, true));
            }
        });
        Sentences.test("`band`: 0 to 2", () -> {
            for (boolean isLeft : new boolean[] {false, true}) {
                Refusal.outside(Halls::sample, "band", 0, 2, Refusal.BOUNDS, band -> h -> h.sheets(band, isLeft));
            }
        });
        Sentences.test("Throws `IndexOutOfBoundsException` if there is no such band", () -> {
            for (int band : new int[] {-1, 3}) {
                Refusal.in(InkHall::new, "band " + band, Refusal.BOUNDS, h -> h.sheets(band, true));
                Refusal.in(Halls::full, "band " + band, Refusal.BOUNDS, h -> h.sheets(band, false));
            }
        });
    }

    private static void promise9() {
        Sentences.of("Promise 9: write");
        Sentences.test("Lets a pupil write a letter with what the pen has.", () -> {
            InkHall hall = Halls.withLetter(1, 12, 23, 34, 45, 56);
            Check.is("with nothing", 0, hall.write(0, 0));
            Check.is("all is missing", 6, hall.slips(0, 5));
            Check.is("with 8 strokes", 1, Halls.script(hall, 0, 0, 1, 12, 23, 34, 45, 56, 67, 78));
            Check.is("two are too much", 2, hall.slips(1, 5));
            Check.is("the pen then", 0, hall.lift());
            Check.is("with one stroke", 2, Halls.script(hall, 0, 0, 1));
            Check.is("five are missing", 5, hall.slips(2, 5));
        });
        Sentences.test("Returns the number of the script.", () -> {
            InkHall hall = Halls.withLetter(8);
            for (int script = 0; script < 40; script++) {
                Check.is("number", script, hall.write(0, 0));
            }
        });
        Sentences.test("Throws `IndexOutOfBoundsException` if there is no such pupil or letter", () -> {
            Refusal.in(InkHall::new, "without pupils and letters", Refusal.BOUNDS, h -> h.write(0, 0));
            Refusal.in(() -> Halls.withLetters(1), "without pupils", Refusal.BOUNDS, h -> h.write(0, 0));
            Refusal.in(EdgesPupilsTest::withoutLetters, "without letters", Refusal.BOUNDS, h -> h.write(0, 0));
            Refusal.outside(Halls::sample, "pupil", 0, 2, Refusal.BOUNDS, pupil -> h -> h.write(pupil, 0));
            Refusal.outside(Halls::sample, "letter", 0, 1, Refusal.BOUNDS, letter -> h -> h.write(0, letter));
            Refusal.outside(EdgesPupilsTest::fullButScripts, "pupil", 0, 19, Refusal.BOUNDS,
                    pupil -> h -> h.write(pupil, 9));
            Refusal.outside(EdgesPupilsTest::fullButScripts, "letter", 0, 9, Refusal.BOUNDS,
                    letter -> h -> h.write(19, letter));
            for (int number : new int[] {-1, 20}) {
                Refusal.in(Halls::full, "script 40 of no pupil", Refusal.BOUNDS, h -> h.write(number, 0));
                Refusal.in(Halls::full, "script 40 of no letter", Refusal.BOUNDS, h -> h.write(0, number));
                Refusal.in(() -> Halls.withPupils(1), "no pupil, no sheet", Refusal.BOUNDS,
                        h -> h.write(number, 0));
                Refusal.in(() -> Halls.withPupils(1), "no letter, no sheet", Refusal.BOUNDS,
                        h -> h.write(0, number));
            }
        });
    }

    /** 20 pupils and 10 letters, all sheets, and no script. */
    private static InkHall fullButScripts() {
        InkHall hall = Halls.withLetters(10);
        for (int pupil = 0; pupil < 20; pupil++) {
            hall.pupil(3, 16, false);
        }
        hall.print(2, false, 1);
        return hall;
    }

    private static InkHall withoutLetters() {
        InkHall hall = new InkHall();
        hall.pupil(0, 16, false);
        hall.print(2, false, 1);
        return hall;
    }

    private static void promise9Throws() {
        Sentences.test("Throws `IllegalStateException` if there are 40,", () -> {
            Check.is("the last one", 39, Halls.withScripts(39).write(0, 0));
            Refusal.in(() -> Halls.withScripts(40), "one more", Refusal.STATE, h -> h.write(0, 0));
            Refusal.in(Halls::full, "one more of a full hall", Refusal.STATE, h -> h.write(19, 9));
            InkHall hall = Halls.full();
            int sheets = hall.sheets(2, false);
            Check.refuses("one more", Refusal.STATE, () -> hall.write(0, 0));
            Check.is("no sheet is taken", sheets, hall.sheets(2, false));
            Check.is("the pen keeps all", 8, hall.lift());
            Check.refuses("it is not written", Refusal.BOUNDS, () -> hall.slips(40, 5));
        });
        Sentences.test("or there is no sheet for it", () -> {
            for (int age : new int[] {7, 8, 11, 12}) {
                for (boolean isLeft : new boolean[] {false, true}) {
                    noSheet(age, isLeft);
                }
            }
        });
    }

    /** All sheets of the other hand, and of the bands that are higher, are of no use. */
    private static void noSheet(int age, boolean isLeft) {
        int band = age < 8 ? 0 : age < 12 ? 1 : 2;
        Refusal.in(() -> uselessSheets(age, isLeft), "at " + age, Refusal.STATE, h -> h.write(0, 0));
        InkHall hall = uselessSheets(age, isLeft);
        Check.refuses("without sheets at " + age, Refusal.STATE, () -> hall.write(0, 0));
        Check.is("the pen keeps its stroke", 1, hall.lift());
        hall.print(0, isLeft, 1);
        Check.is("with one of the lowest band", 0, hall.write(0, 0));
        Check.is("its rulings", band == 0 ? 0 : 1, hall.slips(0, InkHall.RULING));
        Check.refuses("the sheet is taken", Refusal.STATE, () -> hall.write(0, 0));
    }

    private static InkHall uselessSheets(int age, boolean isLeft) {
        int band = age < 8 ? 0 : age < 12 ? 1 : 2;
        InkHall hall = Halls.withLetters(1);
        hall.pupil(0, age, isLeft);
        for (int each = 0; each < 3; each++) {
            hall.print(each, !isLeft, 50);
            if (each > band) {
                hall.print(each, isLeft, 50);
            }
        }
        hall.stroke(4, 7);
        return hall;
    }
}

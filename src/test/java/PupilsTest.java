/** Promises 6 to 9: pupils, the press, and who writes on which sheet. */
public final class PupilsTest {
    public static void main(String[] args) {
        promise6();
        promise7();
        promise8();
        promise9Sheets();
        promise9Wrong();
        Check.end("PupilsTest");
    }

    private static void promise6() {
        InkHall hall = new InkHall();
        for (int pupil = 0; pupil < 20; pupil++) {
            Check.is("pupil", pupil, hall.pupil(pupil % 4, 5 + pupil % 12, pupil % 2 == 0));
        }
        Check.refuses("pupil 21", Refusal.STATE, () -> hall.pupil(0, 5, true));
        Check.refuses("pupil 21 of no age", Refusal.ARGUMENT, () -> hall.pupil(0, 17, true));
        Check.refuses("pupil 21 of no class", Refusal.BOUNDS, () -> hall.pupil(4, 17, true));
        Halls.letter(hall, 8);
        hall.print(2, false, 1);
        Check.is("pupil 19 can write", 0, hall.write(19, 0));
        Check.refuses("pupil 20 can not", Refusal.BOUNDS, () -> hall.write(20, 0));
        Refusal.beside("pupil of a class", 4, group -> h -> h.pupil(group, 9, true));
        for (int age : new int[] {4, 17, 0, -1, 18, Integer.MIN_VALUE, Integer.MAX_VALUE}) {
            Refusal.is("pupil of age " + age, Refusal.ARGUMENT, h -> h.pupil(0, age, false));
            Refusal.is("pupil of no class, age " + age, Refusal.BOUNDS, h -> h.pupil(4, age, false));
        }
        for (int age = 5; age <= 16; age++) {
            checkBand(age, age <= 7 ? 0 : age <= 11 ? 1 : 2);
        }
    }

    /** A pupil of that age takes the sheets of that band, those of the hand that was told. */
    private static void checkBand(int age, int band) {
        for (int hand = 0; hand < 2; hand++) {
            boolean isLeft = hand == 0;
            InkHall hall = Halls.withLetter(8);
            for (int each = 0; each < 3; each++) {
                hall.print(each, isLeft, 10);
            }
            int before = hall.sheets(band, isLeft);
            int number = hall.pupil(3, age, isLeft);
            Check.is("a script at " + age, 0, hall.write(number, 0));
            Check.is("a sheet at " + age + " is of band " + band, before - 1, hall.sheets(band, isLeft));
            Check.is("its ruling is right at " + age, 0, hall.slips(0, InkHall.RULING));
        }
    }

    private static void promise7() {
        InkHall hall = new InkHall();
        for (int band = 0; band < 3; band++) {
            Check.is("one sheet", 1, hall.print(band, true, 1));
            Check.is("50 more", 51, hall.print(band, true, 50));
            Check.is("for the other hand", 7 + band, hall.print(band, false, 7 + band));
        }
        for (int i = 1; i <= 100; i++) {
            Check.is("many sheets", 51 + 50 * i, hall.print(1, true, 50));
        }
        Check.is("those of another band stay", 51, hall.sheets(0, true));
        Check.is("those of the other hand stay", 8, hall.sheets(1, false));
        Refusal.beside("print for a band", 3, band -> h -> h.print(band, true, 1));
        for (int sheets : new int[] {0, 51, -1, 52, Integer.MIN_VALUE, Integer.MAX_VALUE}) {
            Refusal.is("print of " + sheets, Refusal.ARGUMENT, h -> h.print(1, false, sheets));
            Refusal.is("print of " + sheets + " for no band", Refusal.BOUNDS, h -> h.print(3, false, sheets));
        }
    }

    private static void promise8() {
        InkHall hall = new InkHall();
        hall.print(0, false, 3);
        hall.print(1, true, 5);
        hall.print(2, false, 50);
        int[][] due = {{3, 0}, {0, 5}, {50, 0}};
        for (int band = 0; band < 3; band++) {
            Check.is("sheets for the right hand", due[band][0], hall.sheets(band, false));
            Check.is("sheets for the left hand", due[band][1], hall.sheets(band, true));
            Check.is("asking takes none", due[band][0], hall.sheets(band, false));
        }
        Refusal.beside("sheets of a band", 3, band -> h -> h.sheets(band, true));
        Refusal.beside("sheets of a band", 3, band -> h -> h.sheets(band, false));
    }

    private static void promise9Sheets() {
        InkHall hall = new InkHall();
        Halls.letter(hall, 8);
        hall.pupil(0, 12, true);
        hall.pupil(0, 11, true);
        hall.pupil(0, 7, true);
        hall.print(0, true, 2);
        hall.print(1, true, 1);
        hall.print(2, true, 1);
        hall.print(2, false, 1);
        int[][] left = {{2, 1, 0}, {2, 0, 0}, {1, 0, 0}, {0, 0, 0}};
        for (int script = 0; script < 4; script++) {
            Check.is("a script of the oldest", script, hall.write(0, 0));
            for (int band = 0; band < 3; band++) {
                Check.is("sheets then", left[script][band], hall.sheets(band, true));
            }
            Check.is("rulings", script == 0 ? 0 : 1, hall.slips(script, InkHall.RULING));
        }
        Check.refuses("without sheets for the hand", Refusal.STATE, () -> hall.write(0, 0));
        hall.print(2, true, 1);
        Check.refuses("no sheet of a higher band is taken", Refusal.STATE, () -> hall.write(1, 0));
        Check.refuses("nor from the lowest band", Refusal.STATE, () -> hall.write(2, 0));
        Check.is("the sheet of the other hand stays", 1, hall.sheets(2, false));
        hall.print(0, true, 1);
        Check.is("a sheet of the own band", 4, hall.write(0, 0));
        Check.is("the band between is passed over", 5, hall.write(0, 0));
        Check.is("the own band came first", 0, hall.slips(4, InkHall.RULING));
        Check.is("then the lowest", 1, hall.slips(5, InkHall.RULING));
    }

    private static void promise9Wrong() {
        InkHall hall = Halls.withScripts(39);
        Check.is("script 39", 39, Halls.script(hall, 0, 0, 8));
        Check.is("the pen behind a script", 0, hall.lift());
        Check.is("it has taken a sheet each", 10, hall.sheets(2, false));
        hall.stroke(0, 8);
        Check.refuses("script 40", Refusal.STATE, () -> hall.write(0, 0));
        Check.refuses("script 40 of no letter", Refusal.BOUNDS, () -> hall.write(0, 1));
        Check.refuses("script 40 of no pupil", Refusal.BOUNDS, () -> hall.write(1, 0));
        Check.is("no sheet is taken then", 10, hall.sheets(2, false));
        Check.is("the pen keeps its stroke", 1, hall.lift());
        Check.refuses("there is no script 40", Refusal.BOUNDS, () -> hall.grade(40));
        InkHall bare = new InkHall();
        Halls.letter(bare, 8);
        bare.pupil(0, 16, false);
        bare.stroke(1, 2);
        Check.refuses("without sheets", Refusal.STATE, () -> bare.write(0, 0));
        Check.refuses("no pupil, without sheets", Refusal.BOUNDS, () -> bare.write(1, 0));
        Check.is("the pen keeps that, too", 1, bare.lift());
        Refusal.beside("write of a pupil", 3, pupil -> h -> h.write(pupil, 0));
        Refusal.beside("write of a letter", 2, letter -> h -> h.write(0, letter));
    }
}

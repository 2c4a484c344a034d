import java.util.Arrays;

/** Promises 1 to 5: a new object, the pen and the letters. */
public final class LettersTest {
    public static void main(String[] args) {
        promise1();
        promise2();
        promise3();
        promise4();
        promise5();
        Check.end("LettersTest");
    }

    private static void promise1() {
        InkHall hall = new InkHall();
        Check.is("lift of a new pen", 0, hall.lift());
        for (int band = 0; band < 3; band++) {
            Check.is("sheets for the right hand", 0, hall.sheets(band, false));
            Check.is("sheets for the left hand", 0, hall.sheets(band, true));
        }
        Check.is("at(1) of a new one", InkHall.NONE, hall.at(1));
        Check.refuses("letter 0 of a new one", Refusal.BOUNDS, () -> hall.strokeOf(0, 0));
        Check.refuses("script 0 of a new one", Refusal.BOUNDS, () -> hall.grade(0));
        Check.refuses("pupil 0 of a new one", Refusal.BOUNDS, () -> hall.write(0, 0));
        Check.is("the first letter", 0, Halls.letter(hall, 8));
        Check.refuses("a pupil before one is told", Refusal.BOUNDS, () -> hall.write(0, 0));
        Check.is("the first pupil", 0, hall.pupil(0, 16, false));
        hall.print(2, false, 1);
        Check.is("the first script", 0, hall.write(0, 0));
        Check.is("no marks at first", 2, hall.lacks(0));
        for (int examiner = 0; examiner < 6; examiner++) {
            Check.is("examiner " + examiner + " was not taken out", 0, new InkHall().takeOut(examiner));
        }
        InkHall other = new InkHall();
        Check.refuses("another object has no letters", Refusal.BOUNDS, () -> other.strokeOf(0, 0));
    }

    private static void promise2() {
        for (int from = 0; from <= 8; from++) {
            InkHall hall = new InkHall();
            int count = 0;
            for (int to = 0; to <= 8; to++) {
                if (from != to) {
                    count++;
                    Check.is("stroke " + from + to, count, hall.stroke(from, to));
                }
            }
        }
        Refusal.beside("stroke from", 9, dot -> hall -> hall.stroke(dot, 0));
        Refusal.beside("stroke to", 9, dot -> hall -> hall.stroke(0, dot));
        Refusal.is("stroke(9, 9)", Refusal.BOUNDS, hall -> hall.stroke(9, 9));
        for (int dot = 0; dot <= 8; dot++) {
            final int same = dot;
            Refusal.is("stroke to the same dot " + dot, Refusal.ARGUMENT, hall -> hall.stroke(same, same));
        }
        InkHall full = new InkHall();
        Halls.draw(full, 1, 1, 10, 1, 12, 21, 34, 58);
        Check.refuses("a ninth stroke", Refusal.STATE, () -> full.stroke(0, 1));
        Check.refuses("a ninth one to the same dot", Refusal.ARGUMENT, () -> full.stroke(0, 0));
        Check.refuses("a ninth one to no dot", Refusal.BOUNDS, () -> full.stroke(0, 9));
        Check.is("8 strokes are left then", 8, full.lift());
    }

    private static void promise3() {
        InkHall hall = new InkHall();
        Check.is("lift without strokes", 0, hall.lift());
        for (int count = 1; count <= 8; count++) {
            for (int i = 0; i < count; i++) {
                hall.stroke(i % 3, 8);
            }
            Check.is("lift of " + count, count, hall.lift());
            Check.is("lift again", 0, hall.lift());
        }
        Halls.draw(hall, 1, 12);
        hall.lift();
        Check.is("a letter of what was put behind lift", 0, Halls.letter(hall, 34));
        Check.is("its first stroke", 34, hall.strokeOf(0, 0));
        Check.is("and no other", InkHall.NONE, hall.strokeOf(0, 1));
    }

    private static void promise4() {
        InkHall hall = new InkHall();
        Check.refuses("a letter of no strokes", Refusal.STATE, hall::letter);
        int[] line = {1, 12, 23, 34, 45, 56};
        for (int count = 1; count <= 6; count++) {
            Check.is("a letter of " + count, count - 1, Halls.letter(hall, Arrays.copyOf(line, count)));
            Check.is("the pen behind it", 0, hall.lift());
        }
        Halls.draw(hall, 1, 12, 23, 34, 45, 56, 67);
        Check.refuses("a letter of 7", Refusal.STATE, hall::letter);
        hall.stroke(7, 8);
        Check.refuses("a letter of 8", Refusal.STATE, hall::letter);
        Check.is("the pen keeps them", 8, hall.lift());
        int[][] twice = {{1, 1}, {1, 10}, {1, 12, 10}, {78, 1, 2, 3, 4, 87}, {1, 12, 12}};
        for (int[] strokes : twice) {
            Halls.draw(hall, strokes);
            Check.refuses("a letter with a line twice", Refusal.STATE, hall::letter);
            Check.is("the pen keeps those", strokes.length, hall.lift());
        }
        Check.is("lines that have one dot in common", 6, Halls.letter(hall, 1, 2, 12));
        for (int letter = 7; letter < 10; letter++) {
            Check.is("a letter more", letter, Halls.letter(hall, 87));
        }
        hall.stroke(3, 4);
        Check.refuses("an eleventh letter", Refusal.STATE, hall::letter);
        Check.is("the pen keeps its stroke", 1, hall.lift());
        Check.refuses("letter 10", Refusal.BOUNDS, () -> hall.strokeOf(10, 0));
        Check.is("letter 9", 87, hall.strokeOf(9, 0));
    }

    private static void promise5() {
        InkHall hall = new InkHall();
        Halls.letter(hall, 80, 7, 65, 12, 34, 48);
        int[] due = {80, 7, 65, 12, 34, 48};
        for (int place = 0; place < due.length; place++) {
            Check.is("stroke " + place, due[place], hall.strokeOf(0, place));
        }
        for (int behind : new int[] {6, 7, 8, 9, 1000, Integer.MAX_VALUE}) {
            Check.is("no stroke " + behind, InkHall.NONE, hall.strokeOf(0, behind));
        }
        Halls.letter(hall, 10);
        Check.is("of the second letter", 10, hall.strokeOf(1, 0));
        Check.is("no second one", InkHall.NONE, hall.strokeOf(1, 1));
        Halls.draw(hall, 56, 67);
        Check.is("the pen is no part of a letter", 10, hall.strokeOf(1, 0));
        Check.is("nor behind its last stroke", InkHall.NONE, hall.strokeOf(1, 1));
        Refusal.beside("strokeOf of a letter", 2, letter -> h -> h.strokeOf(letter, 0));
        for (int place : Refusal.BELOW) {
            Refusal.is("strokeOf of a place below 0", Refusal.BOUNDS, h -> h.strokeOf(0, place));
        }
    }
}

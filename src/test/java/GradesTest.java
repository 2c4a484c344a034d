import java.util.Arrays;

/** Promises 12 to 15: marks, grades, and examiners who are taken out. */
public final class GradesTest {
    public static void main(String[] args) {
        promise12();
        promise12Wrong();
        promise13();
        promise14();
        promise15Grades();
        promise15Order();
        promise15Wrong();
        Check.end("GradesTest");
    }

    private static void promise12() {
        for (int gap = -20; gap <= 20; gap++) {
            InkHall hall = Halls.withScripts(2);
            int low = Math.max(0, -gap);
            boolean isWide = gap < -3 || gap > 3;
            Check.is("the first mark", 1, hall.mark(5, 0, low));
            Check.refuses("a second one of an examiner", Refusal.STATE, () -> hall.mark(5, 0, low));
            Check.is("of another script", 1, hall.mark(5, 1, 20));
            Check.is("the second mark", 2, hall.mark(0, 0, low + gap));
            if (isWide) {
                Check.refuses("a second one of the first", Refusal.STATE, () -> hall.mark(5, 0, 7));
                Check.refuses("a second one of the second", Refusal.STATE, () -> hall.mark(0, 0, 7));
                Check.is("a third mark at a gap of " + gap, 3, hall.mark(3, 0, 7));
            }
            Check.refuses("a mark more at a gap of " + gap, Refusal.STATE, () -> hall.mark(4, 0, 7));
            Check.is("the marks of the other script are its own", 1, hall.lacks(1));
        }
        for (int mark = 0; mark <= 20; mark++) {
            InkHall hall = Halls.withScripts(1);
            hall.mark(1, 0, mark);
            hall.mark(2, 0, mark);
            Check.is("both marks " + mark, mark, hall.grade(0));
        }
    }

    private static void promise12Wrong() {
        Refusal.beside("mark of an examiner", 6, examiner -> h -> h.mark(examiner, 2, 5));
        Refusal.beside("mark of a script", 4, script -> h -> h.mark(0, script, 5));
        for (int mark : Refusal.noneOf(21)) {
            Refusal.is("mark " + mark, Refusal.ARGUMENT, h -> h.mark(0, 2, mark));
            Refusal.is("mark " + mark + " of no examiner", Refusal.BOUNDS, h -> h.mark(6, 2, mark));
            Refusal.is("mark " + mark + " of no script", Refusal.BOUNDS, h -> h.mark(0, 4, mark));
            Refusal.is("mark " + mark + " of one taken out", Refusal.ARGUMENT, h -> h.mark(3, 2, mark));
            Refusal.is("mark " + mark + " of one who has marked", Refusal.ARGUMENT, h -> h.mark(2, 2, mark));
            Refusal.is("mark " + mark + " where none is taken", Refusal.ARGUMENT, h -> h.mark(4, 0, mark));
        }
        Refusal.is("mark of one taken out", Refusal.STATE, h -> h.mark(3, 2, 5));
        Refusal.is("mark of one who has marked", Refusal.STATE, h -> h.mark(2, 2, 5));
        Refusal.is("mark where none is taken", Refusal.STATE, h -> h.mark(4, 0, 5));
        Refusal.is("mark of one whose mark is the third", Refusal.STATE, h -> h.mark(5, 1, 5));
    }

    private static void promise13() {
        grade(InkHall.NONE);
        grade(InkHall.NONE, 10);
        grade(InkHall.NONE, 0);
        grade(10, 10, 10);
        grade(10, 10, 11);
        grade(10, 11, 10);
        grade(11, 10, 13);
        grade(11, 13, 10);
        grade(0, 0, 1);
        grade(0, 0, 0);
        grade(1, 0, 3);
        grade(20, 20, 20);
        grade(InkHall.NONE, 10, 14);
        grade(InkHall.NONE, 20, 0);
        int[][] orders = {{4, 9, 17}, {4, 17, 9}, {9, 4, 17}, {9, 17, 4}, {17, 4, 9}, {17, 9, 4}};
        for (int[] order : orders) {
            grade(9, order);
        }
        grade(14, 10, 14, 14);
        grade(10, 10, 14, 10);
        grade(12, 10, 14, 12);
        grade(10, 10, 14, 0);
        grade(14, 10, 14, 20);
        grade(0, 20, 0, 0);
        Refusal.beside("grade of a script", 4, script -> h -> h.grade(script));
    }

    private static void promise14() {
        Check.is("lacks without marks", 2, Halls.marked().lacks(0));
        Check.is("lacks with one", 1, Halls.marked(0).lacks(0));
        Check.is("lacks with one of 20", 1, Halls.marked(20).lacks(0));
        Check.is("lacks with two near ones", 0, Halls.marked(10, 13).lacks(0));
        Check.is("lacks with two near ones", 0, Halls.marked(13, 10).lacks(0));
        Check.is("lacks with two apart", 1, Halls.marked(10, 14).lacks(0));
        Check.is("lacks with two apart", 1, Halls.marked(14, 10).lacks(0));
        Check.is("lacks with three", 0, Halls.marked(10, 14, 0).lacks(0));
        InkHall hall = Halls.marked(10, 14, 0);
        hall.takeOut(5);
        Check.is("lacks behind one who has not marked", 0, hall.lacks(0));
        hall.takeOut(0);
        Check.is("lacks of 14 and 0", 1, hall.lacks(0));
        hall.takeOut(1);
        Check.is("lacks of 0 alone", 1, hall.lacks(0));
        hall.takeOut(2);
        Check.is("lacks of none", 2, hall.lacks(0));
        Refusal.beside("lacks of a script", 4, script -> h -> h.lacks(script));
    }

    private static void promise15Grades() {
        InkHall hall = Halls.withScripts(7);
        int[][] marks = {{10, 10}, {10, 14}, {10, 14, 11}, {10, 14, 14}, {10}, {}, {0, 10, 11}};
        for (int script = 0; script < marks.length; script++) {
            for (int examiner = 0; examiner < marks[script].length; examiner++) {
                hall.mark(examiner, script, marks[script][examiner]);
            }
        }
        Check.is("one who has not marked", 0, hall.takeOut(4));
        int[] grades = {10, -1, 11, 14, -1, -1, 10};
        for (int script = 0; script < grades.length; script++) {
            Check.is("the grade before", grades[script], hall.grade(script));
        }
        // 0 and 3 lose one of two; 2 has 14 and 11 left, 12; 3 has 14 twice, as before; 6 has 10.
        Check.is("one whose marks are gone", 2, hall.takeOut(0));
        int[] then = {-1, -1, 12, 14, -1, -1, 10};
        int[] lacks = {1, 1, 0, 0, 2, 2, 0};
        for (int script = 0; script < then.length; script++) {
            Check.is("the grade of " + script + " then", then[script], hall.grade(script));
            Check.is("what " + script + " lacks then", lacks[script], hall.lacks(script));
        }
        Check.is("the next one", 3, hall.takeOut(1));
        Check.is("one without grades", 0, hall.takeOut(2));
        Check.is("one without marks", 0, hall.takeOut(3));
        Check.is("the last one", 0, hall.takeOut(5));
        Check.refuses("all are out", Refusal.STATE, () -> hall.mark(5, 5, 1));
    }

    /** The marks that are left stay in their order: a third one that counts may come second. */
    private static void promise15Order() {
        InkHall hall = Halls.marked(5, 15, 9);
        Check.is("the first of three is out", 1, hall.takeOut(0));
        Check.is("15 and 9 differ", InkHall.NONE, hall.grade(0));
        Check.is("one more is taken", 3, hall.mark(3, 0, 20));
        Check.is("the middle of 15, 9 and 20", 15, hall.grade(0));
        Check.is("the second of three is out", 1, hall.takeOut(1));
        Check.is("one more is taken for 9 and 20", 3, hall.mark(4, 0, 0));
        Check.is("the middle of 9, 20 and 0", 9, hall.grade(0));
        Check.is("the third of three is out", 1, hall.takeOut(4));
        Check.is("9 and 20 are left", 1, hall.lacks(0));
        InkHall near = Halls.marked(5, 15, 8);
        Check.is("5 and 8 are left, of which 6 is another grade", 1, near.takeOut(1));
        Check.is("the grade of 5 and 8", 6, near.grade(0));
        Check.refuses("no third one is taken", Refusal.STATE, () -> near.mark(4, 0, 1));
        InkHall two = Halls.marked(10, 12);
        Check.is("the first of two is out", 1, two.takeOut(0));
        Check.is("another one comes behind 12", 2, two.mark(4, 0, 16));
        Check.is("12 and 16 differ", 1, two.lacks(0));
        Check.refuses("the one whose mark stayed", Refusal.STATE, () -> two.mark(1, 0, 1));
        Check.is("a third one", 3, two.mark(5, 0, 13));
        // Without 12, 16 and 13 come first: were the order another one, 13 would be the third still.
        Check.is("13 and 16 are left", 1, two.takeOut(1));
        Check.is("their grade", 14, two.grade(0));
        InkHall same = Halls.marked(10, 14, 12);
        same.takeOut(2);
        Check.is("the grade is gone with the third", InkHall.NONE, same.grade(0));
    }

    private static void promise15Wrong() {
        Refusal.beside("takeOut of an examiner", 6, examiner -> h -> h.takeOut(examiner));
        Refusal.is("takeOut once more", Refusal.STATE, h -> h.takeOut(3));
        InkHall hall = Halls.marked(10, 10);
        hall.takeOut(4);
        Check.refuses("takeOut twice, without marks", Refusal.STATE, () -> hall.takeOut(4));
        Check.refuses("one who is out marks no more", Refusal.STATE, () -> hall.mark(4, 0, 1));
        InkHall early = new InkHall();
        Check.is("takeOut without scripts", 0, early.takeOut(5));
        Halls.letter(early, 8);
        early.pupil(0, 16, false);
        early.print(2, false, 1);
        early.write(0, 0);
        Check.refuses("out for later scripts, too", Refusal.STATE, () -> early.mark(5, 0, 1));
        Check.is("not so another one", 1, early.mark(4, 0, 1));
    }

    private static void grade(int due, int... marks) {
        InkHall hall = Halls.marked(marks);
        Check.is("the grade of " + Arrays.toString(marks), due, hall.grade(0));
    }
}

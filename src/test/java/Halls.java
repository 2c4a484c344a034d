/** Halls to begin with, and what a hall tells of itself. */
final class Halls {
    /** The strokes of the first letter of the sample: down, along the foot, the head, the middle. */
    static final int[] E = {6, 68, 2, 35};

    private static final int[] TOLD_SCRIPTS = {0, 1, 2, 3, 4, 38, 39, 40};

    private Halls() {
    }

    /** Puts strokes to the pen, each given as 10 times its first dot and its second one. */
    static void draw(InkHall hall, int... strokes) {
        for (int stroke : strokes) {
            hall.stroke(stroke / 10, stroke % 10);
        }
    }

    static int letter(InkHall hall, int... strokes) {
        draw(hall, strokes);
        return hall.letter();
    }

    static int script(InkHall hall, int pupil, int letter, int... strokes) {
        draw(hall, strokes);
        return hall.write(pupil, letter);
    }

    /** A right-handed pupil of 16 in class 0, one letter, and 50 sheets of that pupil's band. */
    static InkHall withLetter(int... strokes) {
        InkHall hall = new InkHall();
        letter(hall, strokes);
        hall.pupil(0, 16, false);
        hall.print(2, false, 50);
        return hall;
    }

    /** As many scripts without slips, of one stroke, by a pupil of class 0. */
    static InkHall withScripts(int count) {
        InkHall hall = withLetter(8);
        for (int i = 0; i < count; i++) {
            script(hall, 0, 0, 8);
        }
        return hall;
    }

    /**
     * A hall with something of everything: script 0 is shown and graded, 1 is shown and has lost
     * its grade, 2 has one mark, 3 none; examiner 3 is out; the pen has two strokes.
     */
    static InkHall sample() {
        InkHall hall = new InkHall();
        letter(hall, E);
        letter(hall, 8);
        hall.pupil(0, 9, false);
        hall.pupil(1, 6, true);
        hall.pupil(2, 16, true);
        hall.print(1, false, 2);
        hall.print(0, false, 3);
        hall.print(0, true, 4);
        script(hall, 0, 0, E);
        script(hall, 1, 0, 35, 20, 6, 6, 14);
        script(hall, 2, 1);
        script(hall, 0, 1, 80);
        hall.mark(0, 0, 10);
        hall.mark(1, 0, 13);
        hall.mark(3, 1, 5);
        hall.mark(4, 1, 15);
        hall.mark(5, 1, 9);
        hall.mark(2, 2, 7);
        hall.show(0);
        hall.show(1);
        hall.vote(1, 0, 4);
        hall.vote(0, 1, 5);
        hall.takeOut(3);
        draw(hall, 12, 47);
        return hall;
    }

    /** Scripts without slips and with those grades, by a pupil of class 0, none of them shown. */
    static InkHall graded(int... grades) {
        InkHall hall = withScripts(grades.length);
        for (int script = 0; script < grades.length; script++) {
            hall.mark(0, script, grades[script]);
            hall.mark(1, script, grades[script]);
        }
        return hall;
    }

    /** The same ones, all of them shown. */
    static InkHall shown(int... grades) {
        InkHall hall = graded(grades);
        for (int script = 0; script < grades.length; script++) {
            hall.show(script);
        }
        return hall;
    }

    /** One script without slips, with those marks by the examiners from 0. */
    static InkHall marked(int... marks) {
        InkHall hall = withScripts(1);
        for (int examiner = 0; examiner < marks.length; examiner++) {
            hall.mark(examiner, 0, marks[examiner]);
        }
        return hall;
    }

    /** As many letters, of one stroke each: 0 to 1, 0 to 2, and so on, then 8 to 1 and 8 to 2. */
    static InkHall withLetters(int count) {
        InkHall hall = new InkHall();
        for (int letter = 0; letter < count; letter++) {
            letter(hall, letter < 8 ? letter + 1 : 80 + letter - 7);
        }
        return hall;
    }

    static InkHall withPupils(int count) {
        InkHall hall = withLetters(1);
        for (int pupil = 0; pupil < count; pupil++) {
            hall.pupil(pupil % 4, 16, false);
        }
        return hall;
    }

    /** All letters, pupils and scripts that there can be, some of these shown; 8 strokes on the pen. */
    static InkHall full() {
        InkHall hall = withLetters(10);
        for (int pupil = 0; pupil < 20; pupil++) {
            hall.pupil(pupil % 4, 16, false);
        }
        hall.print(2, false, 50);
        for (int script = 0; script < 40; script++) {
            hall.write(script % 20, script % 10);
        }
        for (int script : new int[] {0, 1, 38, 39}) {
            hall.mark(0, script, 20 - script / 2);
            hall.mark(1, script, 20 - script / 2);
            hall.show(script);
        }
        draw(hall, 1, 10, 23, 43, 43, 65, 78, 2);
        return hall;
    }

    /** All that a hall answers of its first things and its last ones; at the end its pen is lifted. */
    static String asked(InkHall hall) {
        StringBuilder text = new StringBuilder();
        for (int letter : new int[] {0, 1, 2, 3, 8, 9, 10}) {
            tellLetter(text, hall, letter);
        }
        tellSheets(text, hall);
        for (int script : TOLD_SCRIPTS) {
            tellScript(text, hall, script);
        }
        for (int place : new int[] {1, 2, 4, 5}) {
            add(text, () -> hall.at(place));
        }
        add(text, hall::lift);
        return text.toString();
    }

    /**
     * What a hall answers to calls that change it: by these, what cannot be asked for is told, too.
     * Nothing is asked before, for a fault may be that asking changes something.
     */
    static String spent(InkHall hall) {
        StringBuilder text = new StringBuilder();
        tellPen(text, hall);
        add(text, () -> hall.pupil(3, 5, true));
        add(text, () -> letter(hall, 87));
        for (int script : TOLD_SCRIPTS) {
            spendScript(text, hall, script);
        }
        for (int examiner = 0; examiner < 6; examiner++) {
            final int each = examiner;
            add(text, () -> hall.takeOut(each));
        }
        for (int pupil = 0; pupil < 3; pupil++) {
            final int each = pupil;
            add(text, () -> hall.write(each, 0));
        }
        tellSheets(text, hall);
        return text.toString();
    }

    /** Marks it, shows it and votes for it, as far as it can be: votes are seen when it is shown. */
    private static void spendScript(StringBuilder text, InkHall hall, int script) {
        for (int examiner = 0; examiner < 6; examiner++) {
            final int each = examiner;
            add(text, () -> hall.mark(each, script, 3 * each));
        }
        add(text, () -> hall.show(script));
        add(text, () -> hall.worth(script));
        for (int group = 0; group < 4; group++) {
            final int each = group;
            add(text, () -> hall.vote(each, script, 0));
        }
        add(text, () -> hall.grade(script));
    }

    private static void tellLetter(StringBuilder text, InkHall hall, int letter) {
        for (int place = 0; place < 7; place++) {
            final int each = place;
            add(text, () -> hall.strokeOf(letter, each));
        }
    }

    private static void tellSheets(StringBuilder text, InkHall hall) {
        for (int band = 0; band < 3; band++) {
            final int each = band;
            add(text, () -> hall.sheets(each, false));
            add(text, () -> hall.sheets(each, true));
        }
    }

    private static void tellScript(StringBuilder text, InkHall hall, int script) {
        for (int kind = 0; kind < 6; kind++) {
            final int k = kind;
            add(text, () -> hall.slips(script, k));
        }
        add(text, () -> hall.orderAnew(script));
        add(text, () -> hall.grade(script));
        add(text, () -> hall.lacks(script));
        add(text, () -> hall.worth(script));
        add(text, () -> hall.place(script));
    }

    /** What the pen has: its strokes by a letter or the slips of a script, or at least their number. */
    private static void tellPen(StringBuilder text, InkHall hall) {
        String letter = Check.outcome(hall::letter);
        text.append(letter).append(' ');
        if (letter.matches("\\d+")) {
            tellLetter(text, hall, Integer.parseInt(letter));
            return;
        }
        String script = Check.outcome(() -> hall.write(0, 0));
        text.append(script).append(' ');
        if (script.matches("\\d+")) {
            tellScript(text, hall, Integer.parseInt(script));
        }
        add(text, hall::lift);
    }

    private static void add(StringBuilder text, Check.Call call) {
        text.append(Check.outcome(call)).append(' ');
    }
}

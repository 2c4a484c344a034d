/** Halls to begin with, and what a hall tells of itself. */
final class Halls {
    /** The strokes of the first letter of the sample: down, along the foot, the head, the middle. */
    static final int[] E = {6, 68, 2, 35};

    private Halls() {
    }

    /** Puts strokes to the pen, each given as 10 times its first dot and its second one. */
    static void draw(InkHall hall, int... strokes) {
        for (int stroke : strokes) {
            hall.stroke(stroke / 10, stroke % 10);
        }
    }

    static int letter(InkHall hall, int... strokes) {
        draw(hall, strokes);
        return hall.letter();
    }

    static int script(InkHall hall, int pupil, int letter, int... strokes) {
        draw(hall, strokes);
        return hall.write(pupil, letter);
    }

    /** A right-handed pupil of 16 in class 0, one letter, and 50 sheets of that pupil's band. */
    static InkHall withLetter(int... strokes) {
        InkHall hall = new InkHall();
        letter(hall, strokes);
        hall.pupil(0, 16, false);
        hall.print(2, false, 50);
        return hall;
    }

    /** As many scripts without slips, of one stroke, by a pupil of class 0. */
    static InkHall withScripts(int count) {
        InkHall hall = withLetter(8);
        for (int i = 0; i < count; i++) {
            script(hall, 0, 0, 8);
        }
        return hall;
    }

    /**
     * A hall with something of everything: script 0 is shown and graded, 1 is shown and has lost
     * its grade, 2 has one mark, 3 none; examiner 3 is out; the pen has two strokes.
     */
    static InkHall sample() {
        InkHall hall = new InkHall();
        letter(hall, E);
        letter(hall, 8);
        hall.pupil(0, 9, false);
        hall.pupil(1, 6, true);
        hall.pupil(2, 16, true);
        hall.print(1, false, 2);
        hall.print(0, false, 3);
        hall.print(0, true, 4);
        script(hall, 0, 0, E);
        script(hall, 1, 0, 35, 20, 6, 6, 14);
        script(hall, 2, 1);
        script(hall, 0, 1, 80);
        hall.mark(0, 0, 10);
        hall.mark(1, 0, 13);
        hall.mark(3, 1, 5);
        hall.mark(4, 1, 15);
        hall.mark(5, 1, 9);
        hall.mark(2, 2, 7);
        hall.show(0);
        hall.show(1);
        hall.vote(1, 0, 4);
        hall.vote(0, 1, 5);
        hall.takeOut(3);
        draw(hall, 12, 47);
        return hall;
    }

    /**
     * All that a hall with few scripts answers, calls that change it at the end: two halls that
     * tell the same are alike in what cannot be asked for, too. The hall is spent by it.
     */
    static String told(InkHall hall) {
        StringBuilder text = new StringBuilder();
        for (int letter = 0; letter < 4; letter++) {
            for (int place = 0; place < 7; place++) {
                final int l = letter;
                final int p = place;
                add(text, () -> hall.strokeOf(l, p));
            }
        }
        for (int band = 0; band < 3; band++) {
            final int b = band;
            add(text, () -> hall.sheets(b, false));
            add(text, () -> hall.sheets(b, true));
        }
        for (int script = 0; script < 6; script++) {
            tellScript(text, hall, script);
        }
        add(text, () -> hall.at(1));
        add(text, () -> hall.at(2));
        spend(text, hall);
        return text.toString();
    }

    private static void tellScript(StringBuilder text, InkHall hall, int script) {
        for (int kind = 0; kind < 6; kind++) {
            final int k = kind;
            add(text, () -> hall.slips(script, k));
        }
        add(text, () -> hall.orderAnew(script));
        add(text, () -> hall.grade(script));
        add(text, () -> hall.lacks(script));
        add(text, () -> hall.worth(script));
        add(text, () -> hall.place(script));
    }

    private static void spend(StringBuilder text, InkHall hall) {
        add(text, hall::lift);
        add(text, () -> hall.pupil(3, 5, true));
        add(text, () -> letter(hall, 87));
        for (int script = 0; script < 6; script++) {
            final int s = script;
            for (int group = 0; group < 4; group++) {
                final int g = group;
                add(text, () -> hall.vote(g, s, 0));
            }
            for (int examiner = 0; examiner < 6; examiner++) {
                final int e = examiner;
                add(text, () -> hall.mark(e, s, 3 * e));
            }
            add(text, () -> hall.show(s));
            add(text, () -> hall.grade(s));
        }
        for (int examiner = 0; examiner < 6; examiner++) {
            final int e = examiner;
            add(text, () -> hall.takeOut(e));
        }
        add(text, () -> hall.write(0, 0));
        add(text, () -> hall.write(1, 1));
    }

    private static void add(StringBuilder text, Check.Call call) {
        text.append(Check.outcome(call)).append(' ');
    }
}

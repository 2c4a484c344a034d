import java.util.Arrays;
import java.util.function.IntFunction;

/** The edges that the sentences of "What it is" and of "Terms" name, a test for each sentence. */
public final class EdgesTermsTest {
    private static final int[] SIX = {1, 12, 23, 34, 45, 56};

    public static void main(String[] args) {
        whatItIs();
        exceptions();
        strokes();
        slips();
        pupilsAndSheets();
        grades();
        takenOut();
        fair();
        constants();
        Sentences.end("EdgesTermsTest");
    }

    private static void whatItIs() {
        Sentences.of("What it is");
        Sentences.noEdge("A school of handwriting: letters as strokes between nine dots, slips of what is left"
                + " out, what is too much, what was drawn the other way, and what was out of order, ruled"
                + " sheets by bands of age and by hands, grades by two examiners, and by a third where they"
                + " differ, a fair at which classes vote for others, and examiners who are taken out, so that"
                + " grades and places are made anew.");
        Sentences.test("An object is used for at most 512 calls after it has been made;", () -> {
            InkHall hall = Halls.withLetters(1);
            hall.pupil(0, 16, false);
            for (int call = 4; call < 512; call++) {
                hall.print(2, false, 50);
            }
            Check.is("call 512, the first script", 0, hall.write(0, 0));
            InkHall refused = new InkHall();
            for (int call = 1; call < 512; call++) {
                Check.refuses("call " + call, Refusal.STATE, refused::letter);
            }
            Check.is("call 512, behind refused ones", 1, refused.stroke(0, 8));
        });
        Sentences.noEdge("what later calls answer is free.");
    }

    private static void exceptions() {
        Sentences.of("Terms");
        Sentences.noEdge("Letters, pupils, sheets, scripts, marks and votes are told; slips, sheets, grades,"
                + " votes and places can be asked for.");
        Sentences.test("A method throws IndexOutOfBoundsException if there is no such letter, dot, class,"
                + " pupil, script, examiner or band,", EdgesTermsTest::noSuchThing);
        Sentences.test("IllegalArgumentException if another argument is out of range,", () -> {
            Refusal.is("a stroke to the same dot", Refusal.ARGUMENT, h -> h.stroke(4, 4));
            outside(5, 16, age -> h -> h.pupil(0, age, true));
            outside(1, 50, sheets -> h -> h.print(0, true, sheets));
            outside(0, 5, kind -> h -> h.slips(0, kind));
            outside(0, 20, mark -> h -> h.mark(0, 3, mark));
            outside(0, 5, points -> h -> h.vote(3, 0, points));
        });
        Sentences.test("and IllegalStateException as it documents;", () -> {
            Refusal.in(Halls::full, "stroke", Refusal.STATE, h -> h.stroke(0, 1));
            Refusal.in(Halls::full, "letter", Refusal.STATE, InkHall::letter);
            Refusal.in(Halls::full, "pupil", Refusal.STATE, h -> h.pupil(0, 5, true));
            Refusal.in(Halls::full, "write", Refusal.STATE, h -> h.write(0, 0));
            Refusal.is("mark", Refusal.STATE, h -> h.mark(3, 3, 5));
            Refusal.is("takeOut", Refusal.STATE, h -> h.takeOut(3));
            Refusal.is("show", Refusal.STATE, h -> h.show(3));
            Refusal.is("vote", Refusal.STATE, h -> h.vote(0, 0, 1));
        });
        Sentences.test("if several apply, the one that it lists first is thrown.", EdgesTermsTest::severalApply);
        Sentences.test("A call that throws changes nothing.", EdgesTermsTest::refusedCalls);
        Sentences.test("Divisions are rounded down, where nothing else is told.", () -> {
            Check.is("the mean of 0 and 1", 0, Halls.marked(0, 1).grade(0));
            Check.is("the mean of 20 and 17", 18, Halls.marked(20, 17).grade(0));
        });
    }

    private static void outside(int low, int high, IntFunction<Refusal.CallOn> calls) {
        Refusal.outside(Halls::sample, "argument", low, high, Refusal.ARGUMENT, calls);
    }

    private static void noSuchThing() {
        Refusal.beside("letter", 2, letter -> h -> h.strokeOf(letter, 0));
        Refusal.beside("letter", 2, letter -> h -> h.write(0, letter));
        Refusal.beside("dot", 9, dot -> h -> h.stroke(dot, 4));
        Refusal.beside("dot", 9, dot -> h -> h.stroke(4, dot));
        Refusal.beside("class", 4, group -> h -> h.pupil(group, 9, true));
        Refusal.beside("class", 4, group -> h -> h.vote(group, 0, 1));
        Refusal.beside("pupil", 3, pupil -> h -> h.write(pupil, 0));
        Refusal.beside("script", 4, script -> h -> h.slips(script, 0));
        Refusal.beside("script", 4, script -> h -> h.orderAnew(script));
        Refusal.beside("script", 4, script -> h -> h.mark(0, script, 5));
        Refusal.beside("script", 4, script -> h -> h.grade(script));
        Refusal.beside("script", 4, script -> h -> h.lacks(script));
        Refusal.beside("script", 4, script -> h -> h.show(script));
        Refusal.beside("script", 4, script -> h -> h.vote(3, script, 1));
        Refusal.beside("script", 4, script -> h -> h.worth(script));
        Refusal.beside("script", 4, script -> h -> h.place(script));
        Refusal.beside("examiner", 6, examiner -> h -> h.mark(examiner, 3, 5));
        Refusal.beside("examiner", 6, examiner -> h -> h.takeOut(examiner));
        Refusal.beside("band", 3, band -> h -> h.print(band, true, 1));
        Refusal.beside("band", 3, band -> h -> h.sheets(band, true));
    }

    /** Each pair of exceptions that one call can earn, in a hall where it earns both. */
    private static void severalApply() {
        Refusal.is("stroke: no dot, the same", Refusal.BOUNDS, h -> h.stroke(9, 9));
        Refusal.in(Halls::full, "stroke: no dot, 8", Refusal.BOUNDS, h -> h.stroke(0, 9));
        Refusal.in(Halls::full, "stroke: the same, 8", Refusal.ARGUMENT, h -> h.stroke(0, 0));
        Refusal.in(Halls::full, "stroke: all three", Refusal.BOUNDS, h -> h.stroke(-1, -1));
        Refusal.is("pupil: class, age", Refusal.BOUNDS, h -> h.pupil(4, 17, true));
        Refusal.in(Halls::full, "pupil: class, 20", Refusal.BOUNDS, h -> h.pupil(4, 16, true));
        Refusal.in(Halls::full, "pupil: age, 20", Refusal.ARGUMENT, h -> h.pupil(0, 17, true));
        Refusal.in(Halls::full, "pupil: all three", Refusal.BOUNDS, h -> h.pupil(-1, 4, true));
        Refusal.is("print: band, sheets", Refusal.BOUNDS, h -> h.print(3, true, 0));
        Refusal.in(Halls::full, "write: pupil, 40", Refusal.BOUNDS, h -> h.write(20, 0));
        Refusal.in(Halls::full, "write: letter, 40", Refusal.BOUNDS, h -> h.write(0, 10));
        Refusal.in(() -> Halls.withPupils(1), "write: pupil, no sheet", Refusal.BOUNDS, h -> h.write(1, 0));
        Refusal.in(() -> Halls.withPupils(1), "write: letter, no sheet", Refusal.BOUNDS, h -> h.write(0, 1));
        Refusal.is("slips: script, kind", Refusal.BOUNDS, h -> h.slips(4, 6));
        Refusal.is("mark: examiner, mark", Refusal.BOUNDS, h -> h.mark(6, 3, 21));
        Refusal.is("mark: script, mark", Refusal.BOUNDS, h -> h.mark(0, 4, 21));
        Refusal.is("mark: script, taken out", Refusal.BOUNDS, h -> h.mark(3, 4, 5));
        Refusal.is("mark: examiner, no more marks", Refusal.BOUNDS, h -> h.mark(6, 0, 5));
        Refusal.is("mark: mark, taken out", Refusal.ARGUMENT, h -> h.mark(3, 3, 21));
        Refusal.is("mark: mark, has marked", Refusal.ARGUMENT, h -> h.mark(2, 2, -1));
        Refusal.is("mark: mark, no more marks", Refusal.ARGUMENT, h -> h.mark(5, 0, 21));
        Refusal.is("vote: class, points", Refusal.BOUNDS, h -> h.vote(4, 0, 6));
        Refusal.is("vote: script, points", Refusal.BOUNDS, h -> h.vote(3, 4, 6));
        Refusal.is("vote: class, not shown", Refusal.BOUNDS, h -> h.vote(4, 3, 1));
        Refusal.is("vote: points, not shown", Refusal.ARGUMENT, h -> h.vote(3, 3, 6));
        Refusal.is("vote: points, own class", Refusal.ARGUMENT, h -> h.vote(0, 0, -1));
    }

    /** All calls with arguments at the edges, in halls that are empty, in between, and full. */
    private static void refusedCalls() {
        AllCalls.changeNothing("an empty hall", InkHall::new);
        AllCalls.changeNothing("a hall with something of all", Halls::sample);
        AllCalls.changeNothing("a full hall", Halls::full);
        AllCalls.changeNothing("a hall with no more letters", () -> drawn(Halls.withLetters(10), 87));
        AllCalls.changeNothing("a hall without sheets, a line twice on the pen",
                () -> drawn(Halls.withPupils(20), 1, 12, 10));
        AllCalls.changeNothing("a hall where all are out", EdgesTermsTest::allOut);
    }

    private static InkHall drawn(InkHall hall, int... strokes) {
        Halls.draw(hall, strokes);
        return hall;
    }

    private static InkHall allOut() {
        InkHall hall = Halls.shown(5, 9, 12);
        for (int examiner = 0; examiner < 6; examiner++) {
            hall.takeOut(examiner);
        }
        return hall;
    }

    private static void strokes() {
        Sentences.noEdge("Strokes, letters, scripts");
        Sentences.test("A stroke goes from one of the dots 0 to 8 to another one.", () -> {
            for (int from = -1; from <= 9; from++) {
                for (int to = -1; to <= 9; to++) {
                    boolean isStroke = from >= 0 && from <= 8 && to >= 0 && to <= 8 && from != to;
                    int first = from;
                    int last = to;
                    String told = Check.outcome(() -> new InkHall().stroke(first, last));
                    Check.that(from + " to " + to + " gave " + told, told.equals("1") == isStroke);
                }
            }
        });
        Sentences.test("Two strokes are one line, if they have both dots in common.", () -> {
            for (int[] pair : new int[][] {{8, 8}, {8, 80}, {80, 8}, {78, 87}}) {
                Check.that(Arrays.toString(pair) + " is one line", !isLetter(pair));
            }
            for (int[] pair : new int[][] {{8, 7}, {8, 18}, {8, 81}, {80, 70}, {80, 17}, {1, 23}, {12, 20}}) {
                Check.that(Arrays.toString(pair) + " are two lines", isLetter(pair));
            }
        });
        Sentences.test("There is a pen, without strokes at first, to which strokes are put, 8 at most.", () -> {
            Check.is("at first", 0, new InkHall().lift());
            InkHall hall = new InkHall();
            for (int count = 1; count <= 8; count++) {
                Check.is("put", count, hall.stroke(0, 8));
            }
            Check.refuses("put to 8", Refusal.STATE, () -> hall.stroke(0, 8));
            Check.is("the pen has 8", 8, hall.lift());
        });
        Sentences.test("Letters are numbered from 0, at most 10;", () -> {
            InkHall hall = new InkHall();
            for (int letter = 0; letter < 10; letter++) {
                Check.is("letter", letter, Halls.letter(hall, 8));
            }
            Check.refuses("one more", Refusal.STATE, () -> Halls.letter(hall, 8));
            Check.refuses("number 10", Refusal.BOUNDS, () -> hall.strokeOf(10, 0));
            Check.is("number 9", 8, hall.strokeOf(9, 0));
        });
        Sentences.test("a letter is made of what the pen has, 1 to 6 strokes, no two on one line.", () -> {
            int[] eight = {1, 12, 23, 34, 45, 56, 67, 78};
            for (int count = 0; count <= 8; count++) {
                boolean isMade = isLetter(Arrays.copyOf(eight, count));
                Check.that("of " + count + " strokes", isMade == (count >= 1 && count <= 6));
            }
            for (int place = 1; place < 6; place++) {
                int[] twice = SIX.clone();
                twice[place] = 10;
                Check.that("with one line twice, " + Arrays.toString(twice), !isLetter(twice));
            }
        });
        Sentences.test("A script is a letter that a pupil wrote with what the pen has, perhaps nothing;", () -> {
            InkHall hall = Halls.withLetter(8);
            Check.is("nothing", 0, hall.write(0, 0));
            Check.is("slips of nothing", 1, hall.slips(0, 5));
            Check.is("8 strokes", 1, Halls.script(hall, 0, 0, 8, 8, 8, 8, 8, 8, 8, 8));
            Check.is("slips of 8 strokes", 7, hall.slips(1, 5));
        });
        Sentences.test("scripts are numbered from 0, at most 40.", () -> {
            InkHall hall = Halls.withLetter(8);
            for (int script = 0; script < 40; script++) {
                Check.is("script", script, hall.write(0, 0));
            }
            Check.is("there are sheets", 10, hall.sheets(2, false));
            Check.refuses("one more", Refusal.STATE, () -> hall.write(0, 0));
            Check.refuses("number 40", Refusal.BOUNDS, () -> hall.lacks(40));
            Check.is("number 39", 2, hall.lacks(39));
        });
        Sentences.test("The pen is without strokes behind a letter or a script.", () -> {
            InkHall hall = Halls.withLetter(SIX);
            Check.is("behind a letter", 0, hall.lift());
            Halls.script(hall, 0, 0, 8, 8, 8, 8, 8, 8, 8, 8);
            Check.is("behind a script", 0, hall.lift());
            hall.write(0, 0);
            Check.is("behind a script of nothing", 0, hall.lift());
            Check.is("its slips are not those of the one before", 6, hall.slips(1, 5));
        });
    }

    private static boolean isLetter(int... strokes) {
        return Check.outcome(() -> Halls.letter(new InkHall(), strokes)).equals("0");
    }

    private static void slips() {
        Sentences.test("The slips of a script: MISSING are strokes of the letter on whose line nothing was"
                + " drawn;", () -> {
            slips(InkHall.MISSING, 6);
            slips(InkHall.MISSING, 6, 2, 13, 24, 35, 46, 60, 78, 67);
            slips(InkHall.MISSING, 5, 56);
            slips(InkHall.MISSING, 1, 1, 12, 23, 34, 45);
            slips(InkHall.MISSING, 1, 65, 54, 43, 32, 21, 12, 23, 34);
            slips(InkHall.MISSING, 0, 65, 54, 43, 32, 21, 10);
        });
        Sentences.test("EXTRA are strokes that were drawn on no line of the letter, or on a line on which one"
                + " was drawn before;", () -> {
            slips(InkHall.EXTRA, 0);
            slips(InkHall.EXTRA, 0, SIX);
            slips(InkHall.EXTRA, 8, 2, 13, 24, 35, 46, 60, 78, 67);
            slips(InkHall.EXTRA, 8, 78, 78, 78, 87, 87, 87, 78, 87);
            slips(InkHall.EXTRA, 7, 1, 1, 1, 1, 10, 10, 10, 10);
            slips(InkHall.EXTRA, 7, 10, 1, 1, 1, 1, 1, 1, 1);
            slips(InkHall.EXTRA, 1, 1, 12, 23, 34, 45, 56, 65);
            slips(InkHall.EXTRA, 2, 1, 12, 23, 34, 45, 56, 10, 8);
        });
        Sentences.test("TURNED are those that are not EXTRA, and were drawn the other way than the letter has"
                + " it;", () -> {
            slips(InkHall.TURNED, 0);
            slips(InkHall.TURNED, 0, SIX);
            slips(InkHall.TURNED, 6, 10, 21, 32, 43, 54, 65);
            slips(InkHall.TURNED, 1, 1, 12, 23, 34, 45, 65);
            slips(InkHall.TURNED, 0, 1, 10);
            slips(InkHall.TURNED, 1, 10, 1);
            slips(InkHall.TURNED, 0, 87, 76, 20);
        });
        Sentences.test("ORDER: of those that are not EXTRA, TURNED or not, as few as have to be left out, so"
                + " that the others are in the order of the letter.", () -> {
            slips(InkHall.ORDER, 0);
            slips(InkHall.ORDER, 0, 56);
            slips(InkHall.ORDER, 0, SIX);
            slips(InkHall.ORDER, 0, 1, 1, 12, 1, 23, 12, 78, 34);
            slips(InkHall.ORDER, 1, 65, 10);
            slips(InkHall.ORDER, 5, 56, 45, 34, 23, 12, 1);
            slips(InkHall.ORDER, 5, 65, 54, 43, 32, 21, 10);
            slips(InkHall.ORDER, 3, 34, 1, 45, 12, 10, 56, 23, 32);
            slips(InkHall.ORDER, 3, 34, 45, 56, 1, 12, 23);
            slips(InkHall.ORDER, 1, 56, 1, 12, 23, 34, 45);
            slips(InkHall.ORDER, 1, 12, 23, 34, 45, 56, 1);
        });
    }

    private static void slips(int kind, int due, int... strokes) {
        InkHall hall = Halls.withLetter(SIX);
        Halls.script(hall, 0, 0, strokes);
        Check.is(Arrays.toString(strokes), due, hall.slips(0, kind));
    }

    private static void pupilsAndSheets() {
        Sentences.test("Pupils are numbered from 0, at most 20;", () -> {
            InkHall hall = new InkHall();
            for (int pupil = 0; pupil < 20; pupil++) {
                Check.is("pupil", pupil, hall.pupil(0, 5, false));
            }
            Check.refuses("one more", Refusal.STATE, () -> hall.pupil(0, 5, false));
            Halls.letter(hall, 8);
            hall.print(0, false, 1);
            Check.refuses("number 20", Refusal.BOUNDS, () -> hall.write(20, 0));
            Check.is("number 19", 0, hall.write(19, 0));
        });
        Sentences.test("a pupil is of a class, 0 to 3, has an age, 5 to 16, and writes with the left or the"
                + " right hand.", () -> {
            Refusal.outside(InkHall::new, "class", 0, 3, Refusal.BOUNDS, group -> h -> h.pupil(group, 5, true));
            Refusal.outside(InkHall::new, "age", 5, 16, Refusal.ARGUMENT, age -> h -> h.pupil(3, age, false));
            for (boolean isLeft : new boolean[] {false, true}) {
                InkHall hall = Halls.withLetters(1);
                hall.pupil(0, 5, isLeft);
                hall.print(0, !isLeft, 1);
                Check.refuses("with a sheet for the other hand", Refusal.STATE, () -> hall.write(0, 0));
                hall.print(0, isLeft, 1);
                Check.is("with a sheet for the hand", 0, hall.write(0, 0));
            }
        });
        Sentences.test("Bands of age are 0: 5 to 7, 1: 8 to 11, 2: 12 to 16.", () -> {
            int[][] bands = {{5, 7}, {8, 11}, {12, 16}};
            for (int band = 0; band < 3; band++) {
                for (int age : bands[band]) {
                    for (int each = 0; each < 3; each++) {
                        bandOf(age, band, each);
                    }
                }
            }
        });
        Sentences.test("The press prints sheets of a band, for a hand;", () -> {
            InkHall hall = new InkHall();
            hall.print(0, false, 1);
            hall.print(2, true, 50);
            int[][] due = {{1, 0}, {0, 0}, {0, 50}};
            for (int band = 0; band < 3; band++) {
                Check.is("for the right hand", due[band][0], hall.sheets(band, false));
                Check.is("for the left hand", due[band][1], hall.sheets(band, true));
            }
        });
        Sentences.test("a script takes a sheet of the band and hand of its pupil;", () -> {
            for (int band = 0; band < 3; band++) {
                InkHall hall = Halls.withPupils(0);
                hall.pupil(0, new int[] {7, 11, 16}[band], true);
                for (int each = 0; each < 3; each++) {
                    hall.print(each, true, 2);
                    hall.print(each, false, 2);
                }
                hall.write(0, 0);
                for (int each = 0; each < 3; each++) {
                    Check.is("for the left hand", each == band ? 1 : 2, hall.sheets(each, true));
                    Check.is("for the right hand", 2, hall.sheets(each, false));
                }
                Check.is("rulings", 0, hall.slips(0, InkHall.RULING));
            }
        });
        Sentences.test("if there is none, one of the next lower band that has one, for that hand, and then its"
                + " rulings are wrong, which is one slip more, RULING.", EdgesTermsTest::lowerBands);
    }

    /** A pupil of that band writes on a sheet of it, on one of a lower band, or not at all. */
    private static void bandOf(int age, int band, int printed) {
        InkHall hall = Halls.withLetters(1);
        hall.pupil(0, age, false);
        hall.print(printed, false, 1);
        String what = "age " + age + ", a sheet of band " + printed;
        if (printed > band) {
            Check.refuses(what, Refusal.STATE, () -> hall.write(0, 0));
        } else {
            Check.is(what, 0, hall.write(0, 0));
            Check.is(what + ", rulings", printed == band ? 0 : 1, hall.slips(0, InkHall.RULING));
        }
    }

    private static void lowerBands() {
        InkHall hall = Halls.withLetters(1);
        hall.pupil(0, 12, true);
        hall.print(0, true, 2);
        hall.print(1, true, 1);
        hall.print(1, false, 1);
        hall.print(2, false, 1);
        int[][] left = {{2, 0}, {1, 0}, {0, 0}};
        for (int script = 0; script < 3; script++) {
            Halls.script(hall, 0, 0, 1);
            Check.is("sheets of band 0", left[script][0], hall.sheets(0, true));
            Check.is("sheets of band 1", left[script][1], hall.sheets(1, true));
            Check.is("rulings", 1, hall.slips(script, InkHall.RULING));
            Check.is("one slip more, though two bands lower", 1, hall.slips(script, 5));
        }
        Check.refuses("below the lowest band", Refusal.STATE, () -> hall.write(0, 0));
        Check.is("the other hand's of band 1", 1, hall.sheets(1, false));
        Check.is("the other hand's of band 2", 1, hall.sheets(2, false));
        hall.print(0, true, 1);
        hall.print(2, true, 1);
        hall.write(0, 0);
        Check.is("the own band has one again", 0, hall.slips(3, InkHall.RULING));
        Check.is("the lower one keeps its own", 1, hall.sheets(0, true));
    }

    private static void grades() {
        Sentences.test("There are the examiners 0 to 5.", () -> {
            Refusal.outside(() -> Halls.withScripts(1), "examiner", 0, 5, Refusal.BOUNDS,
                    examiner -> h -> h.mark(examiner, 0, 5));
            Refusal.outside(InkHall::new, "examiner", 0, 5, Refusal.BOUNDS, examiner -> h -> h.takeOut(examiner));
        });
        Sentences.test("An examiner marks a script once, 0 to 20.", () -> {
            Refusal.outside(() -> Halls.withScripts(1), "mark", 0, 20, Refusal.ARGUMENT,
                    mark -> h -> h.mark(5, 0, mark));
            for (int mark : new int[] {0, 5, 20}) {
                Refusal.in(() -> Halls.marked(5), "once more", Refusal.STATE, h -> h.mark(0, 0, mark));
            }
            InkHall two = Halls.withScripts(2);
            two.mark(0, 0, 5);
            Check.is("another script", 1, two.mark(0, 1, 5));
        });
        Sentences.test("The two marks that came first count;", () -> {
            InkHall hall = Halls.withScripts(1);
            hall.mark(5, 0, 20);
            hall.mark(3, 0, 18);
            Check.is("those of 5 and 3", 19, hall.grade(0));
            Check.refuses("one of 0 comes too late", Refusal.STATE, () -> hall.mark(0, 0, 0));
            Check.is("those of 5 and 3 still", 19, hall.grade(0));
        });
        Sentences.test("if they differ by more than 3, the third one, too.", () -> {
            for (int gap = -4; gap <= 4; gap++) {
                InkHall hall = Halls.marked(10, 10 + gap);
                boolean isWide = gap == -4 || gap == 4;
                Check.is("what lacks at a gap of " + gap, isWide ? 1 : 0, hall.lacks(0));
                String told = Check.outcome(() -> hall.mark(2, 0, 10));
                Check.that("a third one at a gap of " + gap + " gave " + told, told.equals("3") == isWide);
            }
            Check.is("0 and 20", 1, Halls.marked(0, 20).lacks(0));
        });
        Sentences.test("The grade is the mean of two, rounded down, or the middle one of three;", () -> {
            int[][] marks = {{0, 0}, {0, 1}, {0, 3}, {3, 0}, {17, 20}, {20, 19}, {20, 20}, {0, 4, 20}, {0, 20, 4},
                {4, 0, 20}, {4, 20, 0}, {20, 0, 4}, {20, 4, 0}, {0, 20, 0}, {0, 20, 20}, {0, 4, 0}, {4, 0, 4}};
            int[] due = {0, 0, 1, 1, 18, 19, 20, 4, 4, 4, 4, 4, 4, 0, 20, 0, 4};
            for (int i = 0; i < due.length; i++) {
                Check.is(Arrays.toString(marks[i]), due[i], Halls.marked(marks[i]).grade(0));
            }
        });
        Sentences.test("there is none as long as there are too few.", () -> {
            for (int[] marks : new int[][] {{}, {0}, {20}, {0, 4}, {4, 0}, {20, 0}}) {
                Check.is(Arrays.toString(marks), InkHall.NONE, Halls.marked(marks).grade(0));
            }
        });
        Sentences.test("No more marks are taken than count.", () -> {
            for (int[] marks : new int[][] {{5, 5}, {5, 8}, {8, 5}, {0, 4, 4}, {4, 0, 20}}) {
                for (int examiner = marks.length; examiner < 6; examiner++) {
                    int each = examiner;
                    Refusal.in(() -> Halls.marked(marks), "one more", Refusal.STATE, h -> h.mark(each, 0, 5));
                }
            }
        });
    }

    private static void takenOut() {
        Sentences.test("When an examiner is taken out, all marks of that one are gone,", () -> {
            InkHall hall = Halls.graded(new int[40]);
            Check.is("of all scripts", 40, hall.takeOut(0));
            for (int script = 0; script < 40; script++) {
                Check.is("what script " + script + " lacks", 1, hall.lacks(script));
            }
        });
        Sentences.test("the others stay in their order,", () -> {
            int[][] marks = {{0, 5, 9}, {5, 0, 9}, {5, 9, 0}};
            for (int out = 0; out < 3; out++) {
                InkHall hall = Halls.marked(marks[out]);
                hall.takeOut(out);
                Check.is("5 and 9 differ", 1, hall.lacks(0));
                Check.is("one more comes last", 3, hall.mark(3, 0, 7));
                // Were it put in the place of the one that is gone, 5 and 7 would be first, and near.
                Check.is("the middle one of 5, 9 and 7", 7, hall.grade(0));
                Check.is("what lacks then", 0, hall.lacks(0));
            }
            InkHall hall = Halls.marked(9, 5);
            hall.takeOut(0);
            hall.mark(2, 0, 9);
            hall.mark(3, 0, 20);
            hall.takeOut(1);
            Check.is("behind 9 and 20", 3, hall.mark(4, 0, 12));
            // 9 and 12 are near, but did not come first.
            Check.is("the middle one of 9, 20 and 12", 12, hall.grade(0));
            Check.is("what lacks with them", 0, hall.lacks(0));
        });
        Sentences.test("and that examiner marks no more.", () -> {
            for (int examiner = 0; examiner < 6; examiner++) {
                InkHall hall = Halls.withScripts(2);
                int out = examiner;
                hall.mark(out, 0, 5);
                hall.takeOut(out);
                Check.refuses("the script that was marked", Refusal.STATE, () -> hall.mark(out, 0, 5));
                Check.refuses("the other one", Refusal.STATE, () -> hall.mark(out, 1, 5));
                hall.write(0, 0);
                Check.refuses("one that came later", Refusal.STATE, () -> hall.mark(out, 2, 5));
                Check.is("another examiner", 1, hall.mark((out + 1) % 6, 0, 5));
            }
        });
    }

    private static void fair() {
        Sentences.test("A script that has a grade can be shown;", () -> {
            Check.is("a grade of 0", 1, Halls.graded(0).show(0));
            Check.is("a grade of 20", 1, Halls.graded(20).show(0));
            Check.refuses("no grade", Refusal.STATE, () -> Halls.marked(0).show(0));
        });
        Sentences.test("it stays shown, grade or not.", () -> {
            InkHall hall = Halls.shown(0, 0);
            hall.takeOut(0);
            Check.refuses("without a grade", Refusal.STATE, () -> hall.show(0));
            Check.is("votes can be given", 5, hall.vote(3, 0, 5));
            hall.mark(2, 0, 0);
            Check.refuses("with one again", Refusal.STATE, () -> hall.show(0));
            Check.is("it has a place again", 1, hall.place(0));
            Check.is("and the points that came between", 10, hall.worth(0));
        });
        Sentences.test("Each class votes for shown scripts, with a grade now or not,", () -> {
            for (int group = 1; group < 4; group++) {
                InkHall hall = Halls.shown(5);
                int each = group;
                Check.is("with a grade", 5, hall.vote(each, 0, 5));
                hall.takeOut(1);
                Check.is("without one", 4, hall.vote(each, 0, 4));
                Check.refuses("not shown", Refusal.STATE, () -> Halls.graded(5).vote(each, 0, 5));
            }
        });
        Sentences.test("by pupils of other classes,", () -> {
            for (int group = 0; group < 4; group++) {
                for (int script = 38; script < 40; script++) {
                    int each = group;
                    int asked = script;
                    // In a full hall script 38 is by a pupil of class 2, script 39 by one of class 3.
                    boolean isOwn = group == script - 36;
                    String told = Check.outcome(() -> Halls.full().vote(each, asked, 5));
                    Check.that("class " + group + " for " + script, told.equals("5") != isOwn);
                }
            }
        });
        Sentences.test("with 0 to 5 points each,", () -> Refusal.outside(() -> Halls.shown(5), "points", 0, 5,
                Refusal.ARGUMENT, points -> h -> h.vote(1, 0, points)));
        Sentences.test("the last vote for a script counting.", () -> {
            InkHall hall = Halls.shown(5, 5);
            Check.is("the first", 5, hall.vote(1, 0, 5));
            Check.is("the next", 1, hall.vote(1, 0, 1));
            Check.is("the last", 0, hall.vote(1, 0, 0));
            Check.is("of another class", 3, hall.vote(2, 0, 3));
            Check.is("for another script", 4, hall.vote(2, 1, 4));
            Check.is("that of the other class stays", 8, hall.vote(1, 0, 5));
        });
        Sentences.test("The worth of a script is 3 times its grade, 2 times all its points, less all its"
                + " slips.", EdgesTermsTest::worths);
        Sentences.test("The place of a shown script that has a grade is 1,", () -> {
            Check.is("alone", 1, Halls.shown(0).place(0));
            Check.is("not shown", InkHall.NONE, Halls.graded(0).place(0));
        });
        Sentences.test("and one more for each shown script with a grade, and more worth,", () -> {
            InkHall hall = Halls.graded(5, 20, 6, 4, 7);
            hall.show(0);
            Check.is("no other one is shown", 1, hall.place(0));
            hall.show(3);
            Check.is("one with less", 1, hall.place(0));
            hall.show(2);
            Check.is("one with more", 2, hall.place(0));
            hall.show(4);
            Check.is("two with more", 3, hall.place(0));
            hall.takeOut(0);
            hall.mark(2, 0, 5);
            Check.is("the others have no grade", 1, hall.place(0));
        });
        Sentences.test("or as much, and a lower number.", () -> {
            InkHall hall = Halls.shown(new int[40]);
            for (int script = 0; script < 40; script++) {
                Check.is("place of script " + script, script + 1, hall.place(script));
            }
        });
    }

    private static void worths() {
        Check.is("0", 0, Halls.shown(0).worth(0));
        Check.is("a grade of 1", 3, Halls.shown(1).worth(0));
        Check.is("a grade of 20", 60, Halls.shown(20).worth(0));
        InkHall hall = Halls.shown(0);
        hall.vote(1, 0, 1);
        Check.is("one point", 2, hall.worth(0));
        hall.vote(2, 0, 5);
        hall.vote(3, 0, 5);
        Check.is("11 points", 22, hall.worth(0));
        InkHall poor = Halls.withLetters(0);
        Halls.letter(poor, SIX);
        poor.pupil(0, 8, false);
        poor.print(0, false, 1);
        // MISSING 2, EXTRA 2, TURNED 1, ORDER 1, RULING 1.
        Halls.script(poor, 0, 0, 1, 32, 12, 34, 78, 78);
        poor.mark(0, 0, 1);
        poor.mark(1, 0, 1);
        poor.show(0);
        Check.is("3, less 7 slips", -4, poor.worth(0));
    }

    private static void constants() {
        Sentences.test("The constants: `NONE = -1`: There is none.", () -> Check.is("NONE", -1, InkHall.NONE));
        Sentences.test("`NOTHING = -9999`: There is no worth.",
                () -> Check.is("NOTHING", -9999, InkHall.NOTHING));
        Sentences.test("`MISSING = 0, EXTRA = 1, TURNED = 2, ORDER = 3, RULING = 4`: Slips.", () -> {
            int[] kinds = {InkHall.MISSING, InkHall.EXTRA, InkHall.TURNED, InkHall.ORDER, InkHall.RULING};
            Check.is("the kinds", "[0, 1, 2, 3, 4]", Arrays.toString(kinds));
        });
        Sentences.noEdge("Ahead of the calls `stroke`, `lift`, `letter`, `strokeOf` the interface says: ----"
                + " strokes and letters.");
        Sentences.noEdge("Ahead of the calls `pupil`, `print`, `sheets`, `write`, `slips`, `orderAnew` the"
                + " interface says: ---- pupils, sheets, scripts.");
        Sentences.noEdge("Ahead of the calls `mark`, `grade`, `lacks`, `takeOut` the interface says: ----"
                + " grades.");
        Sentences.noEdge("Ahead of the calls `show`, `vote`, `worth`, `place`, `at` the interface says: ----"
                + " the fair.");
    }
}

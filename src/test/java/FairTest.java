import java.util.Arrays;

/** Promises 16 to 20: what is shown, votes, worths and places. */
public final class FairTest {
    public static void main(String[] args) {
        promise16();
        promise17();
        promise17Wrong();
        promise18();
        promise19();
        promise19Equal();
        promise20();
        Check.end("FairTest");
    }

    private static void promise16() {
        InkHall hall = Halls.withScripts(4);
        for (int script = 0; script < 4; script++) {
            hall.mark(0, script, 10);
        }
        Check.refuses("show with one mark", Refusal.STATE, () -> hall.show(2));
        hall.mark(1, 2, 10);
        hall.mark(1, 0, 20);
        hall.mark(1, 3, 0);
        Check.is("show", 1, hall.show(2));
        Check.refuses("show with two marks apart", Refusal.STATE, () -> hall.show(0));
        hall.mark(2, 0, 20);
        hall.mark(2, 3, 0);
        Check.is("show", 2, hall.show(0));
        Check.is("show of a grade of 0", 3, hall.show(3));
        Check.refuses("show once more", Refusal.STATE, () -> hall.show(2));
        hall.takeOut(1);
        Check.is("its grade is gone", InkHall.NONE, hall.grade(2));
        Check.refuses("what lost its grade is shown still", Refusal.STATE, () -> hall.show(2));
        hall.mark(3, 2, 12);
        Check.is("its grade is made anew", 11, hall.grade(2));
        Check.refuses("what has a grade again is shown still", Refusal.STATE, () -> hall.show(2));
        hall.mark(4, 1, 10);
        Check.is("those without a grade are counted", 4, hall.show(1));
        Refusal.beside("show of a script", 4, script -> h -> h.show(script));
        Refusal.is("show of a shown one", Refusal.STATE, h -> h.show(0));
        Refusal.is("show of a shown one without a grade", Refusal.STATE, h -> h.show(1));
        Refusal.is("show of one that has one mark", Refusal.STATE, h -> h.show(2));
        Refusal.is("show of one that has no marks", Refusal.STATE, h -> h.show(3));
    }

    private static void promise17() {
        InkHall hall = Halls.sample();
        Check.is("class 1 had given 4", 5, hall.vote(2, 0, 1));
        Check.is("the last vote counts", 6, hall.vote(1, 0, 5));
        Check.is("it may be 0", 1, hall.vote(1, 0, 0));
        Check.is("class 3 without pupils", 6, hall.vote(3, 0, 5));
        Check.is("class 1 votes anew", 11, hall.vote(1, 0, 5));
        Check.is("all classes have given 5", 15, hall.vote(2, 0, 5));
        Check.is("a script without a grade now", 8, hall.vote(2, 1, 3));
        Check.is("the votes of the other stay", 15, hall.vote(3, 0, 5));
        Check.is("points that are told once more", 15, hall.vote(3, 0, 5));
        for (int points = 0; points <= 5; points++) {
            Check.is("points " + points, 10 + points, hall.vote(3, 0, points));
        }
        for (int group = 0; group < 4; group++) {
            checkOwnClass(group);
        }
    }

    private static void checkOwnClass(int group) {
        InkHall hall = new InkHall();
        Halls.letter(hall, 8);
        hall.pupil((group + 1) % 4, 16, false);
        hall.pupil(group, 16, false);
        hall.print(2, false, 1);
        hall.write(1, 0);
        hall.mark(0, 0, 1);
        hall.mark(1, 0, 1);
        hall.show(0);
        int sum = 0;
        for (int voters = 0; voters < 4; voters++) {
            final int each = voters;
            if (voters == group) {
                Check.refuses("class " + group + " for its own", Refusal.STATE, () -> hall.vote(each, 0, 3));
            } else {
                sum += 3;
                Check.is("class " + voters, sum, hall.vote(voters, 0, 3));
            }
        }
    }

    private static void promise17Wrong() {
        Refusal.beside("vote of a class", 4, group -> h -> h.vote(group, 0, 1));
        Refusal.beside("vote for a script", 4, script -> h -> h.vote(3, script, 1));
        for (int points : Refusal.noneOf(6)) {
            Refusal.is("vote of " + points, Refusal.ARGUMENT, h -> h.vote(3, 0, points));
            Refusal.is("vote of " + points + " by no class", Refusal.BOUNDS, h -> h.vote(4, 0, points));
            Refusal.is("vote of " + points + " for no script", Refusal.BOUNDS, h -> h.vote(3, 4, points));
            Refusal.is("vote of " + points + " for one not shown", Refusal.ARGUMENT,
                    h -> h.vote(3, 2, points));
            Refusal.is("vote of " + points + " for the own class", Refusal.ARGUMENT,
                    h -> h.vote(0, 0, points));
        }
        Refusal.is("vote for one not shown", Refusal.STATE, h -> h.vote(3, 2, 1));
        Refusal.is("vote of 0 for one not shown", Refusal.STATE, h -> h.vote(3, 3, 0));
        Refusal.is("vote for the own class", Refusal.STATE, h -> h.vote(0, 0, 1));
        Refusal.is("vote for the own class, without a grade", Refusal.STATE, h -> h.vote(1, 1, 1));
    }

    private static void promise18() {
        InkHall hall = Halls.sample();
        Check.is("3 * 11 and 2 * 4", 41, hall.worth(0));
        Check.is("shown, and without a grade", InkHall.NOTHING, hall.worth(1));
        Check.is("not shown", InkHall.NOTHING, hall.worth(2));
        hall.mark(0, 1, 9);
        Check.is("15 and 9 differ, and 9 is the third", 9, hall.grade(1));
        Check.is("3 * 9 and 2 * 5, less 6", 31, hall.worth(1));
        hall.vote(2, 1, 5);
        Check.is("10 more by a vote", 41, hall.worth(1));
        hall.mark(0, 2, 7);
        Check.is("a grade, and not shown", InkHall.NOTHING, hall.worth(2));
        hall.show(2);
        Check.is("3 * 7, less a stroke and the rulings", 19, hall.worth(2));
        hall.takeOut(5);
        Check.is("its grade is gone again", InkHall.NOTHING, hall.worth(1));
        InkHall poor = Halls.withLetter(1, 12, 23, 34, 45, 56);
        Halls.script(poor, 0, 0, 78, 78, 78, 78, 78, 78, 78, 78);
        poor.mark(0, 0, 0);
        poor.mark(1, 0, 1);
        poor.show(0);
        Check.is("a worth below 0", -14, poor.worth(0));
        poor.vote(1, 0, 5);
        Check.is("a worth below 0 with points", -4, poor.worth(0));
        poor.vote(2, 0, 2);
        Check.is("a worth of 0", 0, poor.worth(0));
        Check.is("it has a place", 1, poor.place(0));
        Refusal.beside("worth of a script", 4, script -> h -> h.worth(script));
    }

    private static void promise19() {
        InkHall hall = Halls.shown(10, 12, 8, 12, 20);
        places("by grades", hall, 4, 2, 5, 3, 1);
        hall.vote(1, 2, 5);
        hall.vote(2, 2, 2);
        places("38 with points, by 36 of two", hall, 5, 3, 2, 4, 1);
        hall.vote(2, 2, 1);
        places("36 thrice", hall, 5, 2, 3, 4, 1);
        hall.vote(3, 3, 1);
        places("38 by a vote", hall, 5, 3, 4, 2, 1);
        InkHall parts = Halls.withScripts(3);
        parts.mark(0, 0, 5);
        parts.mark(1, 0, 5);
        parts.mark(0, 1, 20);
        parts.mark(1, 1, 20);
        parts.mark(0, 2, 4);
        parts.mark(2, 2, 4);
        parts.show(0);
        places("those not shown are not counted", parts, 1, InkHall.NONE, InkHall.NONE);
        parts.show(1);
        parts.show(2);
        places("all shown", parts, 2, 1, 3);
        parts.takeOut(1);
        places("those without a grade are not counted", parts, InkHall.NONE, InkHall.NONE, 1);
        parts.mark(3, 0, 4);
        places("one has a grade again, as much, and a lower number", parts, 1, InkHall.NONE, 2);
        Refusal.beside("place of a script", 4, script -> h -> h.place(script));
    }

    private static void promise19Equal() {
        int[] same = new int[40];
        Arrays.fill(same, 7);
        InkHall hall = Halls.shown(same);
        for (int script = 0; script < 40; script++) {
            Check.is("of as much worth, by number", script + 1, hall.place(script));
            Check.is("of as much worth, at", script, hall.at(script + 1));
        }
        Check.is("at 41", InkHall.NONE, hall.at(41));
        hall.takeOut(1);
        Check.is("all grades are gone", InkHall.NONE, hall.at(1));
        // A worth below 0 is more than none, and less than 0.
        InkHall poor = Halls.withLetter(8);
        Halls.script(poor, 0, 0);
        Halls.script(poor, 0, 0, 8);
        Halls.script(poor, 0, 0, 8, 8);
        for (int script = 0; script < 3; script++) {
            poor.mark(0, script, 0);
            poor.mark(1, script, 0);
            poor.show(script);
        }
        places("worth of -1, 0 and -1", poor, 2, 1, 3);
    }

    private static void promise20() {
        InkHall hall = Halls.shown(3, 1, 2);
        int[] due = {0, 2, 1};
        for (int place = 1; place <= 3; place++) {
            Check.is("at " + place, due[place - 1], hall.at(place));
        }
        for (int place : new int[] {4, 5, 40, 41, 1000, Integer.MAX_VALUE}) {
            Check.is("at " + place, InkHall.NONE, hall.at(place));
        }
        hall.vote(1, 1, 5);
        Check.is("at 1 by a vote", 1, hall.at(1));
        hall.takeOut(0);
        Check.is("at 1 without grades", InkHall.NONE, hall.at(1));
        Check.is("at 2 of the sample", InkHall.NONE, Halls.sample().at(2));
        Check.is("at 1 of the sample", 0, Halls.sample().at(1));
        for (int place : new int[] {0, -1, -2, Integer.MIN_VALUE}) {
            Refusal.is("at " + place, Refusal.BOUNDS, h -> h.at(place));
            Check.refuses("at " + place + " of a new one", Refusal.BOUNDS, () -> new InkHall().at(place));
        }
    }

    private static void places(String what, InkHall hall, int... due) {
        for (int script = 0; script < due.length; script++) {
            Check.is(what + ": place of " + script, due[script], hall.place(script));
            if (due[script] != InkHall.NONE) {
                Check.is(what + ": at " + due[script], script, hall.at(due[script]));
            }
        }
    }
}

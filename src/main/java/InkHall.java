import java.util.ArrayList;

/**
 * A school of handwriting: letters, sheets, scripts and their slips, the grades of examiners, and
 * a fair. Grades, worths and places are kept nowhere, but found at each call, so that they are
 * made anew by themselves when an examiner is taken out.
 */
public final class InkHall {
    public static final int NONE = -1;
    public static final int NOTHING = -9999;
    public static final int MISSING = 0, EXTRA = 1, TURNED = 2, ORDER = 3, RULING = 4;

    private static final int KINDS = 5;
    private static final int ALL_KINDS = 5;
    private static final int DOTS = 9;
    private static final int PEN_STROKES = 8;
    private static final int LETTER_STROKES = 6;
    private static final int LETTERS = 10;
    private static final int CLASSES = 4;
    private static final int LOWEST_AGE = 5;
    private static final int HIGHEST_AGE = 16;
    private static final int PUPILS = 20;
    private static final int BANDS = 3;
    private static final int SHEETS_AT_ONCE = 50;
    private static final int SCRIPTS = 40;
    private static final int EXAMINERS = 6;
    private static final int FIRST_MARKS = 2;
    private static final int MOST_MARKS = 3;
    private static final int WIDEST_GAP = 3;
    private static final int HIGHEST_MARK = 20;
    private static final int HIGHEST_POINTS = 5;

    private final Strokes pen;
    private final Press press;
    private final ArrayList<Strokes> letters;
    private final ArrayList<Pupil> pupils;
    private final ArrayList<Script> scripts;
    private final boolean[] isOut;

    public InkHall() {
        pen = new Strokes();
        press = new Press();
        letters = new ArrayList<Strokes>();
        pupils = new ArrayList<Pupil>();
        scripts = new ArrayList<Script>();
        isOut = new boolean[EXAMINERS];
    }

    // ---- strokes and letters

    public int stroke(int from, int to)
            throws IndexOutOfBoundsException, IllegalArgumentException, IllegalStateException {
        checkDot(from);
        checkDot(to);
        if (from == to) {
            throw new IllegalArgumentException("a stroke goes to another dot");
        }
        if (pen.size() >= PEN_STROKES) {
            throw new IllegalStateException("the pen has all strokes that it can have");
        }
        pen.add(Strokes.codeOf(from, to));
        return pen.size();
    }

    public int lift() {
        int had = pen.size();
        pen.clear();
        return had;
    }

    public int letter() throws IllegalStateException {
        if (pen.size() == 0 || pen.size() > LETTER_STROKES) {
            throw new IllegalStateException("a letter has 1 to 6 strokes");
        }
        if (pen.hasLineTwice()) {
            throw new IllegalStateException("two strokes are on one line");
        }
        if (letters.size() >= LETTERS) {
            throw new IllegalStateException("there are all letters that there can be");
        }
        Strokes made = new Strokes();
        made.addAll(pen);
        letters.add(made);
        pen.clear();
        return letters.size() - 1;
    }

    public int strokeOf(int letter, int place) throws IndexOutOfBoundsException {
        Strokes asked = letterNumbered(letter);
        if (place < 0) {
            throw new IndexOutOfBoundsException("places begin at 0");
        }
        return asked.codeAt(place);
    }

    // ---- pupils, sheets, scripts

    public int pupil(int group, int age, boolean isLeft)
            throws IndexOutOfBoundsException, IllegalArgumentException, IllegalStateException {
        checkClass(group);
        if (age < LOWEST_AGE || age > HIGHEST_AGE) {
            throw new IllegalArgumentException("an age is 5 to 16");
        }
        if (pupils.size() >= PUPILS) {
            throw new IllegalStateException("there are all pupils that there can be");
        }
        pupils.add(new Pupil(group, bandOf(age), isLeft));
        return pupils.size() - 1;
    }

    public int print(int band, boolean isLeft, int sheets)
            throws IndexOutOfBoundsException, IllegalArgumentException {
        checkBand(band);
        if (sheets < 1 || sheets > SHEETS_AT_ONCE) {
            throw new IllegalArgumentException("the press prints 1 to 50 sheets");
        }
        press.add(band, isLeft, sheets);
        return press.countOf(band, isLeft);
    }

    public int sheets(int band, boolean isLeft) throws IndexOutOfBoundsException {
        checkBand(band);
        return press.countOf(band, isLeft);
    }

    public int write(int pupil, int letter) throws IndexOutOfBoundsException, IllegalStateException {
        Pupil writer = pupilNumbered(pupil);
        Strokes model = letterNumbered(letter);
        if (scripts.size() >= SCRIPTS) {
            throw new IllegalStateException("there are all scripts that there can be");
        }
        int band = press.bandFor(writer.band, writer.isLeft);
        if (band == NONE) {
            throw new IllegalStateException("there is no sheet for it");
        }
        press.add(band, writer.isLeft, -1);
        Script written = new Script(writer.group);
        written.compare(model, pen);
        if (band != writer.band) {
            written.addWrongRuling();
        }
        scripts.add(written);
        pen.clear();
        return scripts.size() - 1;
    }

    public int slips(int script, int kind) throws IndexOutOfBoundsException, IllegalArgumentException {
        Script asked = scriptNumbered(script);
        if (kind < 0 || kind > ALL_KINDS) {
            throw new IllegalArgumentException("there is no such kind of slips");
        }
        return kind == ALL_KINDS ? asked.allSlips() : asked.slipsOf(kind);
    }

    public int orderAnew(int script) throws IndexOutOfBoundsException {
        return scriptNumbered(script).fewestLeftOut();
    }

    // ---- grades

    public int mark(int examiner, int script, int mark)
            throws IndexOutOfBoundsException, IllegalArgumentException, IllegalStateException {
        checkExaminer(examiner);
        Marks marks = scriptNumbered(script).marks;
        if (mark < 0 || mark > HIGHEST_MARK) {
            throw new IllegalArgumentException("a mark is 0 to 20");
        }
        if (isOut[examiner]) {
            throw new IllegalStateException("the examiner was taken out");
        }
        if (marks.hasOneOf(examiner)) {
            throw new IllegalStateException("the examiner has marked it");
        }
        if (marks.lacking() == 0) {
            throw new IllegalStateException("no more marks are taken");
        }
        marks.add(examiner, mark);
        return marks.size();
    }

    public int grade(int script) throws IndexOutOfBoundsException {
        return scriptNumbered(script).marks.result();
    }

    public int lacks(int script) throws IndexOutOfBoundsException {
        return scriptNumbered(script).marks.lacking();
    }

    public int takeOut(int examiner) throws IndexOutOfBoundsException, IllegalStateException {
        checkExaminer(examiner);
        if (isOut[examiner]) {
            throw new IllegalStateException("the examiner was taken out before");
        }
        isOut[examiner] = true;
        int changed = 0;
        for (int i = 0; i < scripts.size(); i++) {
            Marks marks = scripts.get(i).marks;
            int before = marks.result();
            marks.removeOf(examiner);
            if (marks.result() != before) {
                changed++;
            }
        }
        return changed;
    }

    // ---- the fair

    public int show(int script) throws IndexOutOfBoundsException, IllegalStateException {
        Script asked = scriptNumbered(script);
        if (asked.isShown) {
            throw new IllegalStateException("the script is shown");
        }
        if (asked.marks.result() == NONE) {
            throw new IllegalStateException("the script has no grade");
        }
        asked.isShown = true;
        return shownCount();
    }

    public int vote(int group, int script, int points)
            throws IndexOutOfBoundsException, IllegalArgumentException, IllegalStateException {
        checkClass(group);
        Script asked = scriptNumbered(script);
        if (points < 0 || points > HIGHEST_POINTS) {
            throw new IllegalArgumentException("a class votes with 0 to 5 points");
        }
        if (!asked.isShown) {
            throw new IllegalStateException("the script is not shown");
        }
        if (asked.group == group) {
            throw new IllegalStateException("the script is by a pupil of the class");
        }
        asked.setPoints(group, points);
        return asked.allPoints();
    }

    public int worth(int script) throws IndexOutOfBoundsException {
        return scriptNumbered(script).worthNow();
    }

    public int place(int script) throws IndexOutOfBoundsException {
        return placeNow(script, scriptNumbered(script).worthNow());
    }

    public int at(int place) throws IndexOutOfBoundsException {
        if (place < 1) {
            throw new IndexOutOfBoundsException("places begin at 1");
        }
        for (int i = 0; i < scripts.size(); i++) {
            if (placeNow(i, scripts.get(i).worthNow()) == place) {
                return i;
            }
        }
        return NONE;
    }

    // ---- what the calls above share

    private static void checkDot(int dot) {
        if (dot < 0 || dot >= DOTS) {
            throw new IndexOutOfBoundsException("there is no such dot");
        }
    }

    private static void checkClass(int group) {
        if (group < 0 || group >= CLASSES) {
            throw new IndexOutOfBoundsException("there is no such class");
        }
    }

    private static void checkBand(int band) {
        if (band < 0 || band >= BANDS) {
            throw new IndexOutOfBoundsException("there is no such band");
        }
    }

    private static void checkExaminer(int examiner) {
        if (examiner < 0 || examiner >= EXAMINERS) {
            throw new IndexOutOfBoundsException("there is no such examiner");
        }
    }

    private Strokes letterNumbered(int letter) {
        if (letter < 0 || letter >= letters.size()) {
            throw new IndexOutOfBoundsException("there is no such letter");
        }
        return letters.get(letter);
    }

    private Pupil pupilNumbered(int pupil) {
        if (pupil < 0 || pupil >= pupils.size()) {
            throw new IndexOutOfBoundsException("there is no such pupil");
        }
        return pupils.get(pupil);
    }

    private Script scriptNumbered(int script) {
        if (script < 0 || script >= scripts.size()) {
            throw new IndexOutOfBoundsException("there is no such script");
        }
        return scripts.get(script);
    }

    private static int bandOf(int age) {
        if (age <= 7) {
            return 0;
        }
        return age <= 11 ? 1 : 2;
    }

    private int shownCount() {
        int count = 0;
        for (int i = 0; i < scripts.size(); i++) {
            if (scripts.get(i).isShown) {
                count++;
            }
        }
        return count;
    }

    private int placeNow(int script, int worth) {
        if (worth == NOTHING) {
            return NONE;
        }
        int place = 1;
        for (int i = 0; i < scripts.size(); i++) {
            // NOTHING is far below each worth, so a script without one is never ahead.
            int other = scripts.get(i).worthNow();
            if (other > worth || other == worth && i < script) {
                place++;
            }
        }
        return place;
    }

    /** Strokes in the order in which they were drawn: those of the pen, or of a letter. */
    private static final class Strokes {
        private final int[] codes;
        private int count;

        Strokes() {
            codes = new int[PEN_STROKES];
            count = 0;
        }

        /** A stroke is held as the number that strokeOf answers. */
        static int codeOf(int from, int to) {
            return 10 * from + to;
        }

        private static int turnedRound(int code) {
            return codeOf(code % 10, code / 10);
        }

        int size() {
            return count;
        }

        int codeAt(int place) {
            return place >= 0 && place < count ? codes[place] : NONE;
        }

        void add(int code) {
            if (count < PEN_STROKES) {
                codes[count] = code;
                count++;
            }
        }

        void addAll(Strokes others) {
            for (int i = 0; i < others.size(); i++) {
                add(others.codeAt(i));
            }
        }

        void clear() {
            count = 0;
        }

        /** The place of the first stroke on the line of that one, or NONE. */
        int firstOnLineOf(int code) {
            for (int i = 0; i < count; i++) {
                if (codes[i] == code || codes[i] == turnedRound(code)) {
                    return i;
                }
            }
            return NONE;
        }

        boolean hasLineTwice() {
            for (int i = 0; i < count; i++) {
                if (firstOnLineOf(codes[i]) < i) {
                    return true;
                }
            }
            return false;
        }
    }

    private static final class Pupil {
        final int group;
        final int band;
        final boolean isLeft;

        Pupil(int group, int band, boolean isLeft) {
            this.group = group;
            this.band = band;
            this.isLeft = isLeft;
        }
    }

    /** The sheets that are left, by bands, for each hand. */
    private static final class Press {
        private final int[] forLeft;
        private final int[] forRight;

        Press() {
            forLeft = new int[BANDS];
            forRight = new int[BANDS];
        }

        int countOf(int band, boolean isLeft) {
            if (band < 0 || band >= BANDS) {
                return 0;
            }
            return isLeft ? forLeft[band] : forRight[band];
        }

        void add(int band, boolean isLeft, int change) {
            if (band < 0 || band >= BANDS) {
                return;
            }
            if (isLeft) {
                forLeft[band] += change;
            } else {
                forRight[band] += change;
            }
        }

        /** That band, or the next lower one that has a sheet for the hand, or NONE. */
        int bandFor(int band, boolean isLeft) {
            for (int lower = band; lower >= 0; lower--) {
                if (countOf(lower, isLeft) > 0) {
                    return lower;
                }
            }
            return NONE;
        }
    }

    /** What is known of a script; the strokes themselves are needed no more when it is compared. */
    private static final class Script {
        final int group;
        final Marks marks;
        boolean isShown;
        private final int[] slipCounts;
        private final int[] points;
        /** Where in the letter the strokes that are not EXTRA stand, as they were drawn. */
        private final int[] ranks;
        private int rankCount;

        Script(int group) {
            this.group = group;
            marks = new Marks();
            isShown = false;
            slipCounts = new int[KINDS];
            points = new int[CLASSES];
            ranks = new int[LETTER_STROKES];
            rankCount = 0;
        }

        void compare(Strokes model, Strokes drawn) {
            for (int i = 0; i < drawn.size(); i++) {
                int code = drawn.codeAt(i);
                int rank = model.firstOnLineOf(code);
                if (rank == NONE || drawn.firstOnLineOf(code) < i) {
                    slipCounts[EXTRA]++;
                } else {
                    addRank(rank);
                    if (model.codeAt(rank) != code) {
                        slipCounts[TURNED]++;
                    }
                }
            }
            slipCounts[MISSING] = model.size() - rankCount;
            slipCounts[ORDER] = rankCount - longestRise();
        }

        private void addRank(int rank) {
            if (rankCount < LETTER_STROKES) {
                ranks[rankCount] = rank;
                rankCount++;
            }
        }

        void addWrongRuling() {
            slipCounts[RULING] = 1;
        }

        /** The most strokes that can stay, each behind the one before it in the letter, too. */
        private int longestRise() {
            int[] lengths = new int[LETTER_STROKES];
            int longest = 0;
            for (int i = 0; i < rankCount; i++) {
                lengths[i] = 1;
                for (int before = 0; before < i; before++) {
                    if (ranks[before] < ranks[i]) {
                        lengths[i] = Math.max(lengths[i], lengths[before] + 1);
                    }
                }
                longest = Math.max(longest, lengths[i]);
            }
            return longest;
        }

        /** The slips of ORDER in the other way: a set is a bit for each stroke left out. */
        int fewestLeftOut() {
            int sets = 1 << rankCount;
            int fewest = rankCount;
            for (int set = 0; set < sets; set++) {
                if (isInOrderWithout(set)) {
                    fewest = Math.min(fewest, Integer.bitCount(set));
                }
            }
            return fewest;
        }

        private boolean isInOrderWithout(int set) {
            int last = NONE;
            for (int i = 0; i < rankCount; i++) {
                boolean stays = (set >> i & 1) == 0;
                if (stays && ranks[i] < last) {
                    return false;
                }
                if (stays) {
                    last = ranks[i];
                }
            }
            return true;
        }

        int slipsOf(int kind) {
            return kind >= 0 && kind < KINDS ? slipCounts[kind] : 0;
        }

        int allSlips() {
            int sum = 0;
            for (int count : slipCounts) {
                sum += count;
            }
            return sum;
        }

        void setPoints(int voters, int given) {
            if (voters >= 0 && voters < CLASSES) {
                points[voters] = given;
            }
        }

        int allPoints() {
            int sum = 0;
            for (int given : points) {
                sum += given;
            }
            return sum;
        }

        int worthNow() {
            int result = marks.result();
            if (!isShown || result == NONE) {
                return NOTHING;
            }
            return 3 * result + 2 * allPoints() - allSlips();
        }
    }

    /** The marks of a script, in the order in which they came. */
    private static final class Marks {
        private final int[] examiners;
        private final int[] values;
        private int count;

        Marks() {
            examiners = new int[MOST_MARKS];
            values = new int[MOST_MARKS];
            count = 0;
        }

        int size() {
            return count;
        }

        boolean hasOneOf(int examiner) {
            for (int i = 0; i < count; i++) {
                if (examiners[i] == examiner) {
                    return true;
                }
            }
            return false;
        }

        void add(int examiner, int value) {
            if (count < MOST_MARKS) {
                examiners[count] = examiner;
                values[count] = value;
                count++;
            }
        }

        void removeOf(int examiner) {
            int kept = 0;
            for (int i = 0; i < count; i++) {
                if (examiners[i] != examiner) {
                    examiners[kept] = examiners[i];
                    values[kept] = values[i];
                    kept++;
                }
            }
            count = kept;
        }

        /** How many marks there have yet to be: the third one is due only when two differ. */
        int lacking() {
            boolean isThirdDue = count >= FIRST_MARKS && Math.abs(values[0] - values[1]) > WIDEST_GAP;
            return (isThirdDue ? MOST_MARKS : FIRST_MARKS) - count;
        }

        /** The grade that these marks make, or NONE. */
        int result() {
            if (lacking() > 0) {
                return NONE;
            }
            int lower = Math.min(values[0], values[1]);
            int upper = Math.max(values[0], values[1]);
            if (count < MOST_MARKS) {
                return (lower + upper) / 2;
            }
            return Math.max(lower, Math.min(upper, values[2]));
        }
    }
}

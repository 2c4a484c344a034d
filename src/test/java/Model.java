import java.util.ArrayList;
import java.util.HashSet;
import java.util.List;
import java.util.Set;

/**
 * The document once more, as slowly and plainly as can be: all that was told is kept, and each
 * answer is worked out from that alone. It shares no way of working with InkHall.
 */
final class Model {
    private record Stroke(int from, int to) {
        Set<Integer> line() {
            return Set.of(from, to);
        }
    }

    private record Pupil(int group, int age, boolean isLeft) {
        int band() {
            return age < 8 ? 0 : age < 12 ? 1 : 2;
        }
    }

    private record Script(int pupil, int letter, List<Stroke> drawn, int band) {
    }

    private record Mark(int examiner, int script, int value) {
    }

    private record Sheet(int band, boolean isLeft) {
    }

    private record Vote(int group, int script, int points) {
    }

    private List<Stroke> pen = new ArrayList<>();
    private final List<List<Stroke>> letters = new ArrayList<>();
    private final List<Pupil> pupils = new ArrayList<>();
    private final List<Sheet> sheets = new ArrayList<>();
    private final List<Script> scripts = new ArrayList<>();
    private final List<Mark> marks = new ArrayList<>();
    private final Set<Integer> out = new HashSet<>();
    private final Set<Integer> shown = new HashSet<>();
    private final List<Vote> votes = new ArrayList<>();

    private static void bounds(boolean holds) {
        if (!holds) {
            throw new IndexOutOfBoundsException();
        }
    }

    private static void argument(boolean holds) {
        if (!holds) {
            throw new IllegalArgumentException();
        }
    }

    private static void state(boolean holds) {
        if (!holds) {
            throw new IllegalStateException();
        }
    }

    private static boolean in(int value, int low, int high) {
        return low <= value && value <= high;
    }

    private boolean isScript(int script) {
        return in(script, 0, scripts.size() - 1);
    }

    int stroke(int from, int to) {
        bounds(in(from, 0, 8) && in(to, 0, 8));
        argument(from != to);
        state(pen.size() < 8);
        pen.add(new Stroke(from, to));
        return pen.size();
    }

    int lift() {
        int had = pen.size();
        pen = new ArrayList<>();
        return had;
    }

    int letter() {
        Set<Set<Integer>> lines = new HashSet<>();
        for (Stroke stroke : pen) {
            lines.add(stroke.line());
        }
        state(in(pen.size(), 1, 6) && lines.size() == pen.size() && letters.size() < 10);
        letters.add(pen);
        pen = new ArrayList<>();
        return letters.size() - 1;
    }

    int strokeOf(int letter, int place) {
        bounds(in(letter, 0, letters.size() - 1) && place >= 0);
        List<Stroke> strokes = letters.get(letter);
        return place < strokes.size() ? strokes.get(place).from() * 10 + strokes.get(place).to() : -1;
    }

    int pupil(int group, int age, boolean isLeft) {
        bounds(in(group, 0, 3));
        argument(in(age, 5, 16));
        state(pupils.size() < 20);
        pupils.add(new Pupil(group, age, isLeft));
        return pupils.size() - 1;
    }

    int print(int band, boolean isLeft, int count) {
        bounds(in(band, 0, 2));
        argument(in(count, 1, 50));
        for (int i = 0; i < count; i++) {
            sheets.add(new Sheet(band, isLeft));
        }
        return sheets(band, isLeft);
    }

    int sheets(int band, boolean isLeft) {
        bounds(in(band, 0, 2));
        int count = 0;
        for (Sheet sheet : sheets) {
            if (sheet.equals(new Sheet(band, isLeft))) {
                count++;
            }
        }
        return count;
    }

    int write(int pupil, int letter) {
        bounds(in(pupil, 0, pupils.size() - 1) && in(letter, 0, letters.size() - 1));
        Pupil writer = pupils.get(pupil);
        int band = writer.band();
        while (band >= 0 && sheets(band, writer.isLeft()) == 0) {
            band--;
        }
        state(scripts.size() < 40 && band >= 0);
        sheets.remove(new Sheet(band, writer.isLeft()));
        scripts.add(new Script(pupil, letter, pen, band));
        pen = new ArrayList<>();
        return scripts.size() - 1;
    }

    private boolean isExtra(Script script, int index) {
        Set<Integer> line = script.drawn().get(index).line();
        for (int before = 0; before < index; before++) {
            if (script.drawn().get(before).line().equals(line)) {
                return true;
            }
        }
        return letters.get(script.letter()).stream().noneMatch(stroke -> stroke.line().equals(line));
    }

    private List<Stroke> notExtra(Script script) {
        List<Stroke> kept = new ArrayList<>();
        for (int i = 0; i < script.drawn().size(); i++) {
            if (!isExtra(script, i)) {
                kept.add(script.drawn().get(i));
            }
        }
        return kept;
    }

    private int missing(Script script) {
        int count = 0;
        for (Stroke stroke : letters.get(script.letter())) {
            if (script.drawn().stream().noneMatch(drawn -> drawn.line().equals(stroke.line()))) {
                count++;
            }
        }
        return count;
    }

    private int turned(Script script) {
        List<Stroke> letter = letters.get(script.letter());
        int count = 0;
        for (Stroke stroke : notExtra(script)) {
            if (letter.contains(new Stroke(stroke.to(), stroke.from()))) {
                count++;
            }
        }
        return count;
    }

    private int rank(Script script, Stroke stroke) {
        List<Stroke> letter = letters.get(script.letter());
        int rank = 0;
        while (!letter.get(rank).line().equals(stroke.line())) {
            rank++;
        }
        return rank;
    }

    /** The fewest to leave out: either the first one goes, or it stays and is behind the last. */
    private int leftOut(Script script, List<Stroke> strokes, int last) {
        if (strokes.isEmpty()) {
            return 0;
        }
        List<Stroke> rest = strokes.subList(1, strokes.size());
        int fewest = 1 + leftOut(script, rest, last);
        int rank = rank(script, strokes.get(0));
        return rank > last ? Math.min(fewest, leftOut(script, rest, rank)) : fewest;
    }

    int slips(int number, int kind) {
        bounds(isScript(number));
        argument(in(kind, 0, 5));
        Script script = scripts.get(number);
        switch (kind) {
            case 0:
                return missing(script);
            case 1:
                return script.drawn().size() - notExtra(script).size();
            case 2:
                return turned(script);
            case 3:
                return leftOut(script, notExtra(script), -1);
            case 4:
                return script.band() == pupils.get(script.pupil()).band() ? 0 : 1;
            default:
                return slips(number, 0) + slips(number, 1) + slips(number, 2) + slips(number, 3)
                        + slips(number, 4);
        }
    }

    int orderAnew(int script) {
        bounds(isScript(script));
        return slips(script, 3);
    }

    /** The values of the marks of a script, but for those of examiners who are out. */
    private List<Integer> values(int script) {
        List<Integer> values = new ArrayList<>();
        for (Mark mark : marks) {
            if (mark.script() == script && !out.contains(mark.examiner())) {
                values.add(mark.value());
            }
        }
        return values;
    }

    int mark(int examiner, int script, int value) {
        bounds(in(examiner, 0, 5) && isScript(script));
        argument(in(value, 0, 20));
        state(!out.contains(examiner));
        for (Mark mark : marks) {
            state(mark.script() != script || mark.examiner() != examiner);
        }
        state(lacks(script) > 0);
        marks.add(new Mark(examiner, script, value));
        return values(script).size();
    }

    int grade(int script) {
        bounds(isScript(script));
        List<Integer> values = values(script);
        if (values.size() < 2) {
            return -1;
        }
        int gap = values.get(0) - values.get(1);
        if (in(gap, -3, 3)) {
            return (values.get(0) + values.get(1)) / 2;
        }
        if (values.size() < 3) {
            return -1;
        }
        List<Integer> sorted = new ArrayList<>(values.subList(0, 3));
        sorted.sort(null);
        return sorted.get(1);
    }

    int lacks(int script) {
        bounds(isScript(script));
        int has = values(script).size();
        return grade(script) != -1 ? 0 : has < 2 ? 2 - has : 1;
    }

    int takeOut(int examiner) {
        bounds(in(examiner, 0, 5));
        state(!out.contains(examiner));
        List<Integer> before = new ArrayList<>();
        for (int script = 0; script < scripts.size(); script++) {
            before.add(grade(script));
        }
        out.add(examiner);
        int changed = 0;
        for (int script = 0; script < scripts.size(); script++) {
            changed += before.get(script) == grade(script) ? 0 : 1;
        }
        return changed;
    }

    int show(int script) {
        bounds(isScript(script));
        state(!shown.contains(script) && grade(script) != -1);
        shown.add(script);
        return shown.size();
    }

    private int points(int script) {
        int sum = 0;
        for (int group = 0; group < 4; group++) {
            int last = 0;
            for (Vote vote : votes) {
                if (vote.group() == group && vote.script() == script) {
                    last = vote.points();
                }
            }
            sum += last;
        }
        return sum;
    }

    int vote(int group, int script, int points) {
        bounds(in(group, 0, 3) && isScript(script));
        argument(in(points, 0, 5));
        state(shown.contains(script) && pupils.get(scripts.get(script).pupil()).group() != group);
        votes.add(new Vote(group, script, points));
        return points(script);
    }

    int worth(int script) {
        bounds(isScript(script));
        if (grade(script) == -1 || !shown.contains(script)) {
            return -9999;
        }
        return 3 * grade(script) + 2 * points(script) - slips(script, 5);
    }

    /** The scripts that have a place, the first one at the head. */
    private List<Integer> ranking() {
        List<Integer> ranking = new ArrayList<>();
        for (int script = 0; script < scripts.size(); script++) {
            if (worth(script) != -9999) {
                ranking.add(script);
            }
        }
        // The sort is stable: scripts of the same worth stay in the order of their numbers.
        ranking.sort((one, other) -> worth(other) - worth(one));
        return ranking;
    }

    int place(int script) {
        bounds(isScript(script));
        int index = ranking().indexOf(script);
        return index < 0 ? -1 : index + 1;
    }

    int at(int place) {
        bounds(place >= 1);
        List<Integer> ranking = ranking();
        return place <= ranking.size() ? ranking.get(place - 1) : -1;
    }
}

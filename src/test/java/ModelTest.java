import java.util.Arrays;

/** Long mixed runs of calls, right and wrong ones, answered by InkHall as by the plain model. */
public final class ModelTest {
    private static final int RUNS = 3000;
    private static final int CALLS = 512;
    private static final int[] FAR = {Integer.MIN_VALUE, -2, -1, 51, 100, Integer.MAX_VALUE};

    private long seed;
    private final InkHall hall;
    private final Model model;
    private int letters;
    private int pupils;
    private int scripts;
    private int calls;
    private boolean isRight;
    private final StringBuilder told;

    private ModelTest(int run) {
        seed = run * 7919L + 17;
        hall = new InkHall();
        model = new Model();
        isRight = true;
        told = new StringBuilder();
    }

    public static void main(String[] args) {
        for (int run = 0; run < RUNS; run++) {
            new ModelTest(run).play(run);
        }
        Check.end("ModelTest");
    }

    private int below(int bound) {
        seed = seed * 6364136223846793005L + 1442695040888963407L;
        return (int) ((seed >>> 33) % bound);
    }

    /** Mostly a number from low to high; at times one beside that, or far away. */
    private int about(int low, int high) {
        int die = below(40);
        if (die == 0) {
            return FAR[below(FAR.length)];
        }
        if (die == 1) {
            return low - 1;
        }
        return die == 2 || high < low ? high + 1 : low + below(high - low + 1);
    }

    /** One of the first scripts more often, so that some get all their marks and votes. */
    private int script() {
        return about(0, below(3) == 0 ? scripts - 1 : Math.min(scripts - 1, 4));
    }

    private void play(int run) {
        // How calm a run is: in a calm one few examiners are taken out, so that grades last.
        int calm = run % 3;
        open();
        while (calls < CALLS && isRight) {
            call(arguments(below(100), calm));
        }
        Check.that("run " + run + ": " + told, isRight);
    }

    /** Letters, pupils and sheets to begin with, so that most scripts can be written. */
    private void open() {
        int[] lines = {1, 12, 23, 30, 2, 13};
        for (int letter = 0; letter < 3; letter++) {
            int first = below(lines.length);
            for (int i = 0; i < 2 + letter * 2; i++) {
                int line = lines[(first + i) % lines.length];
                boolean isTurned = below(2) == 0;
                call(0, isTurned ? line % 10 : line / 10, isTurned ? line / 10 : line % 10);
            }
            call(2);
        }
        for (int pupil = 0; pupil < 6; pupil++) {
            call(4, below(4), 5 + below(12));
        }
        for (int band = 0; band < 3; band++) {
            call(5, band, 1 + below(10));
            call(5, band, 1 + below(10));
        }
    }

    private void call(int... numbers) {
        boolean isLeft = below(2) == 0;
        String got = Check.outcome(() -> ofHall(numbers, isLeft));
        String want = Check.outcome(() -> ofModel(numbers, isLeft));
        told.append(Arrays.toString(numbers)).append(isLeft ? "left " : " ");
        calls++;
        if (!got.equals(want) && isRight) {
            isRight = false;
            told.append("gave ").append(got).append(", due is ").append(want).append("; ");
        }
        count(numbers[0], want);
    }

    private void count(int method, String answer) {
        boolean isNumber = answer.charAt(0) <= '9';
        if (isNumber && method == 2) {
            letters++;
        } else if (isNumber && method == 4) {
            pupils++;
        } else if (isNumber && method == 7) {
            scripts++;
        }
    }

    /** The number of a method, in the order of the face, and its arguments. */
    private int[] arguments(int kind, int calm) {
        if (kind < 28) {
            int from = about(0, 3);
            return new int[] {0, from, below(20) == 0 ? about(0, 8) : (from + 1 + below(3)) & 3};
        }
        if (kind < 38) {
            return new int[] {7, about(0, pupils - 1), about(0, letters - 1)};
        }
        if (kind < 48) {
            return telling(kind);
        }
        if (kind < 68) {
            return grading(kind, calm);
        }
        return fair(kind);
    }

    private int[] telling(int kind) {
        switch (kind) {
            case 38:
                return new int[] {1};
            case 39:
            case 40:
                return new int[] {2};
            case 41:
                return new int[] {3, about(0, letters - 1), about(0, 5)};
            case 42:
            case 43:
                return new int[] {4, about(0, 3), about(5, 16)};
            case 44:
                return new int[] {5, about(0, 2), about(1, 3)};
            case 45:
                return new int[] {6, about(0, 2)};
            case 46:
                return new int[] {8, script(), about(0, 5)};
            default:
                return new int[] {9, script()};
        }
    }

    private int[] grading(int kind, int calm) {
        if (kind < 63) {
            int middle = below(15);
            return new int[] {10, about(0, 5), script(), calm == 2 ? about(0, 20) : middle + below(6)};
        }
        if (kind < 65) {
            return new int[] {11, script()};
        }
        if (kind < 67) {
            return new int[] {12, script()};
        }
        return below(2 + 6 * calm) == 0 ? new int[] {13, about(0, 5)} : new int[] {8, script(), about(0, 5)};
    }

    private int[] fair(int kind) {
        if (kind < 74) {
            return new int[] {14, script()};
        }
        if (kind < 82) {
            return new int[] {15, about(0, 3), script(), about(0, 5)};
        }
        if (kind < 88) {
            return new int[] {16, script()};
        }
        return kind < 94 ? new int[] {17, script()} : new int[] {18, about(1, 6)};
    }

    private int ofHall(int[] a, boolean isLeft) {
        switch (a[0]) {
            case 0: return hall.stroke(a[1], a[2]);
            case 1: return hall.lift();
            case 2: return hall.letter();
            case 3: return hall.strokeOf(a[1], a[2]);
            case 4: return hall.pupil(a[1], a[2], isLeft);
            case 5: return hall.print(a[1], isLeft, a[2]);
            case 6: return hall.sheets(a[1], isLeft);
            case 7: return hall.write(a[1], a[2]);
            case 8: return hall.slips(a[1], a[2]);
            case 9: return hall.orderAnew(a[1]);
            case 10: return hall.mark(a[1], a[2], a[3]);
            case 11: return hall.grade(a[1]);
            case 12: return hall.lacks(a[1]);
            case 13: return hall.takeOut(a[1]);
            case 14: return hall.show(a[1]);
            case 15: return hall.vote(a[1], a[2], a[3]);
            case 16: return hall.worth(a[1]);
            case 17: return hall.place(a[1]);
            default: return hall.at(a[1]);
        }
    }

    private int ofModel(int[] a, boolean isLeft) {
        switch (a[0]) {
            case 0: return model.stroke(a[1], a[2]);
            case 1: return model.lift();
            case 2: return model.letter();
            case 3: return model.strokeOf(a[1], a[2]);
            case 4: return model.pupil(a[1], a[2], isLeft);
            case 5: return model.print(a[1], isLeft, a[2]);
            case 6: return model.sheets(a[1], isLeft);
            case 7: return model.write(a[1], a[2]);
            case 8: return model.slips(a[1], a[2]);
            case 9: return model.orderAnew(a[1]);
            case 10: return model.mark(a[1], a[2], a[3]);
            case 11: return model.grade(a[1]);
            case 12: return model.lacks(a[1]);
            case 13: return model.takeOut(a[1]);
            case 14: return model.show(a[1]);
            case 15: return model.vote(a[1], a[2], a[3]);
            case 16: return model.worth(a[1]);
            case 17: return model.place(a[1]);
            default: return model.at(a[1]);
        }
    }
}

import java.util.ArrayList;
import java.util.Arrays;
import java.util.List;

/** Promises 10 and 11: the slips of scripts. */
public final class SlipsTest {
    public static void main(String[] args) {
        promise10Missing();
        promise10ExtraAndTurned();
        promise10Order();
        promise10RulingAndAll();
        promise10Wrong();
        promise11();
        Check.end("SlipsTest");
    }

    private static void promise10Missing() {
        slips(Halls.E, Halls.E, 0, 0, 0, 0);
        slips(Halls.E, row(), 4, 0, 0, 0);
        slips(Halls.E, row(6), 3, 0, 0, 0);
        slips(Halls.E, row(35), 3, 0, 0, 0);
        slips(Halls.E, row(6, 68, 35), 1, 0, 0, 0);
        slips(row(8), row(), 1, 0, 0, 0);
        slips(row(8), row(80), 0, 0, 1, 0);
        slips(row(1, 12, 23, 34, 45, 56), row(), 6, 0, 0, 0);
    }

    private static void promise10ExtraAndTurned() {
        slips(Halls.E, row(6, 68, 2, 35, 14), 0, 1, 0, 0);
        slips(Halls.E, row(14, 41, 14, 17, 78, 87, 45, 54), 4, 8, 0, 0);
        slips(Halls.E, row(6, 6, 68, 2, 35), 0, 1, 0, 0);
        slips(Halls.E, row(6, 60, 68, 2, 35), 0, 1, 0, 0);
        slips(Halls.E, row(60, 6, 68, 2, 35), 0, 1, 1, 0);
        slips(Halls.E, row(60, 60, 6, 6), 3, 3, 1, 0);
        slips(Halls.E, row(60, 86, 20, 53), 0, 0, 4, 0);
        slips(Halls.E, row(6, 68, 2, 35, 6, 68, 2, 35), 0, 4, 0, 0);
        slips(Halls.E, row(60, 86, 20, 53, 35, 2, 68, 6), 0, 4, 4, 0);
        // A stroke that shares one dot alone with a stroke of the letter is on another line.
        slips(row(8), row(7, 18, 78), 1, 3, 0, 0);
    }

    private static void promise10Order() {
        slips(Halls.E, row(68, 6, 2, 35), 0, 0, 0, 1);
        slips(Halls.E, row(35, 2, 68, 6), 0, 0, 0, 3);
        slips(Halls.E, row(35, 6, 68, 2), 0, 0, 0, 1);
        slips(Halls.E, row(68, 2, 35, 6), 0, 0, 0, 1);
        slips(Halls.E, row(2, 35, 6, 68), 0, 0, 0, 2);
        slips(Halls.E, row(68, 6, 35, 2), 0, 0, 0, 2);
        // What is turned counts for the order, what is EXTRA does not.
        slips(Halls.E, row(53, 20, 86, 60), 0, 0, 4, 3);
        slips(Halls.E, row(6, 14, 68, 6, 2, 35, 2), 0, 3, 0, 0);
        slips(Halls.E, row(35, 35, 35, 6), 2, 2, 0, 1);
        slips(Halls.E, row(35, 6), 2, 0, 0, 1);
        int[] six = row(1, 12, 23, 34, 45, 56);
        slips(six, row(34, 45, 56, 1, 12, 23), 0, 0, 0, 3);
        slips(six, row(56, 1, 45, 12, 34, 23), 0, 0, 0, 3);
        slips(six, row(12, 1, 34, 23, 56, 45), 0, 0, 0, 3);
        slips(six, row(56, 45, 34, 23, 12, 1), 0, 0, 0, 5);
        slips(six, row(23, 1, 12, 56, 34, 45), 0, 0, 0, 2);
        // A greedy choice of the next one in order would leave out too many here.
        slips(six, row(1, 56, 12, 23, 34, 45), 0, 0, 0, 1);
        slips(six, row(56, 1, 12, 78, 23, 87, 34, 45), 0, 2, 0, 1);
    }

    private static void promise10RulingAndAll() {
        InkHall hall = new InkHall();
        Halls.letter(hall, 1, 12, 23, 34, 45, 56);
        hall.pupil(0, 12, false);
        hall.print(1, false, 1);
        hall.print(0, false, 1);
        Halls.script(hall, 0, 0, 65, 54, 32, 12, 78, 87, 12);
        Halls.script(hall, 0, 0, 1, 12, 23, 34, 45, 56);
        int[] due = {2, 3, 3, 3, 1, 12};
        for (int kind = 0; kind < due.length; kind++) {
            Check.is("slips of kind " + kind, due[kind], hall.slips(0, kind));
            Check.is("of two bands lower", kind < 4 ? 0 : 1, hall.slips(1, kind));
        }
        hall.print(2, false, 1);
        Check.is("sheets that come later change nothing", 1, hall.slips(0, InkHall.RULING));
        Halls.letter(hall, 78);
        Check.is("letters that come later change nothing", 12, hall.slips(0, 5));
    }

    private static void promise10Wrong() {
        Refusal.beside("slips of a script", 4, script -> h -> h.slips(script, 5));
        for (int kind : Refusal.noneOf(6)) {
            Refusal.is("slips of kind " + kind, Refusal.ARGUMENT, h -> h.slips(0, kind));
            Refusal.is("slips of kind " + kind + " of no script", Refusal.BOUNDS, h -> h.slips(4, kind));
        }
    }

    /** All orders of all numbers of strokes, for which both ways have to answer the same. */
    private static void promise11() {
        int[] six = row(1, 12, 23, 34, 45, 56);
        for (int count = 1; count <= 6; count++) {
            List<int[]> orders = new ArrayList<>();
            addOrders(orders, new int[count], 0, 0);
            InkHall hall = Halls.withScripts(0);
            for (int i = 0; i < orders.size(); i++) {
                if (i % 40 == 0) {
                    hall = Halls.withLetter(Arrays.copyOf(six, count));
                }
                int[] order = orders.get(i);
                for (int rank : order) {
                    hall.stroke(six[rank] / 10, six[rank] % 10);
                }
                int script = hall.write(0, 0);
                int due = count - longest(order, 0, -1);
                Check.is("ORDER of an order of " + count, due, hall.slips(script, InkHall.ORDER));
                Check.is("ORDER anew of an order of " + count, due, hall.orderAnew(script));
            }
        }
        Refusal.beside("orderAnew of a script", 4, script -> h -> h.orderAnew(script));
    }

    /** A script of the letter E with those strokes has so many slips of each kind. */
    private static void slips(int[] letter, int[] strokes, int missing, int extra, int turned, int order) {
        InkHall hall = Halls.withLetter(letter);
        int script = Halls.script(hall, 0, 0, strokes);
        String what = Arrays.toString(strokes) + " for " + Arrays.toString(letter);
        Check.is(what + ": MISSING", missing, hall.slips(script, InkHall.MISSING));
        Check.is(what + ": EXTRA", extra, hall.slips(script, InkHall.EXTRA));
        Check.is(what + ": TURNED", turned, hall.slips(script, InkHall.TURNED));
        Check.is(what + ": ORDER", order, hall.slips(script, InkHall.ORDER));
        Check.is(what + ": ORDER anew", order, hall.orderAnew(script));
        Check.is(what + ": RULING", 0, hall.slips(script, InkHall.RULING));
        Check.is(what + ": all", missing + extra + turned + order, hall.slips(script, 5));
    }

    private static int[] row(int... strokes) {
        return strokes;
    }

    private static void addOrders(List<int[]> orders, int[] order, int length, int used) {
        if (length == order.length) {
            orders.add(order.clone());
            return;
        }
        for (int rank = 0; rank < order.length; rank++) {
            if ((used >> rank & 1) == 0) {
                order[length] = rank;
                addOrders(orders, order, length + 1, used | 1 << rank);
            }
        }
    }

    private static int longest(int[] order, int from, int last) {
        int longest = 0;
        for (int i = from; i < order.length; i++) {
            if (order[i] > last) {
                longest = Math.max(longest, 1 + longest(order, i + 1, order[i]));
            }
        }
        return longest;
    }
}

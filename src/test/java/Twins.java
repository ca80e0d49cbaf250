import java.util.ArrayList;
import java.util.List;
import java.util.function.Supplier;

/**
 * Objects made alike, of which one is asked: what is refused must leave it as its twin is, but for status(), and what
 * only asks must leave it wholly so. All that can be told of both is compared, the tape, the sheets and the image too.
 */
final class Twins {
    interface Ask {
        long of(SixFellows x);
    }

    interface AskWith {
        long of(SixFellows x, int v);
    }

    private static final long ODD_BITS = 0x1234_5678_9abc_de7fL;

    private Twins() {
    }

    static void refused(int finding, Supplier<SixFellows> road, String call, Ask ask) {
        SixFellows asked = road.get();
        SixFellows twin = road.get();
        Check.due(call, ask.of(asked), finding);
        int which = Check.BEYOND - finding;
        for (int w = -1; w <= 6; w++) {
            int more = w == -1 || w == which ? 1 : 0;
            Check.due("status(" + w + ") behind " + call, asked.status(w), twin.status(w) + more);
        }
        isAsItsTwin("what was refused, " + call + ",", asked, twin);
    }

    /** BEYOND for the values next to the bounds, outside of them, and for the ends of int. */
    static void beyond(Supplier<SixFellows> road, String call, int least, int greatest, AskWith ask) {
        int[] outside = {least - 1, greatest + 1, Integer.MIN_VALUE, Integer.MAX_VALUE};
        for (int v : outside) {
            refused(Check.BEYOND, road, call.replace("?", String.valueOf(v)), x -> ask.of(x, v));
        }
    }

    static void answered(long answer, Supplier<SixFellows> road, String call, Ask ask) {
        SixFellows asked = road.get();
        SixFellows twin = road.get();
        Check.due(call, ask.of(asked), answer);
        for (int w = -1; w <= 6; w++) {
            Check.due("status(" + w + ") behind " + call, asked.status(w), twin.status(w));
        }
        isAsItsTwin("what was only asked, " + call + ",", asked, twin);
    }

    /** Ends both: what they hold is looked at by calls that change it. */
    static void isAsItsTwin(String what, SixFellows asked, SixFellows twin) {
        Check.holds(what + " left all as it was", told(asked).equals(told(twin)));
    }

    private static List<Long> told(SixFellows x) {
        List<Long> row = new ArrayList<>();
        addRoad(x, row);
        row.add((long) x.road());
        addRoad(x, row);
        row.add((long) x.undo());
        addRoad(x, row);
        for (int s = 0; s < 4; s++) {
            addSheet(x, s, row);
        }
        row.add((long) x.tear());
        return row;
    }

    private static void addRoad(SixFellows x, List<Long> row) {
        for (int what = 0; what <= 4; what++) {
            row.add((long) x.count(what));
        }
        row.add((long) x.now(0));
        int fellows = x.count(0);
        for (int i = 0; i < fellows; i++) {
            for (int what = 0; what <= 4; what++) {
                row.add((long) x.of(i, what));
            }
        }
        int tasks = x.count(1);
        for (int i = 0; i < tasks; i++) {
            for (int what = 0; what <= 3; what++) {
                row.add((long) x.taskOf(i, what));
            }
        }
    }

    private static void addSheet(SixFellows x, int s, List<Long> row) {
        row.add(x.write(s, 0, ODD_BITS));
        long was = x.write(s, 0, 0);
        row.add(was);
        for (int i = 1; i <= 40 && was != Check.BEYOND && was != Check.MISSING; i++) {
            was = x.write(s, i, 0);
            row.add(was);
        }
    }
}

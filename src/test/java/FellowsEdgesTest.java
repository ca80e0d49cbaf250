/** Promises 1 to 7, sentence by sentence, at their bounds. */
final class FellowsEdgesTest {
    private static final int[] PACES = {1, 3, 1, 1, 6, 1};

    public static void main(String[] args) {
        noFellowsAndTasks();
        emptyTape();
        noImage();
        fellowIsNumbered();
        fellowBeyond();
        fellowFull();
        ofWhatIsHeld();
        ofSpoilt();
        ofPace();
        ofHours();
        ofBeyond();
        setWithinBounds();
        setBeyond();
        turnToEachKind();
        turnBeyond();
        asOneOfAKind();
        asBeyond();
        asOfAnotherKind();
        doesByEachSort();
        doesBeyond();
        Document.allPromisesAreNamed(1, 7);
        Check.end();
    }

    private static void noFellowsAndTasks() {
        Document.promise(1, "No FELLOWS, TASKS;");
        Roads.full();
        for (int what = 0; what <= 4; what++) {
            Check.due("count(" + what + "), though another object is full", new SixFellows().count(what), 0);
        }
        for (int what = 0; what <= 5; what++) {
            Check.due("now(" + what + ")", new SixFellows().now(what), 0);
        }
        Twins.refused(Check.BEYOND, Roads::empty, "of(0, 0)", x -> x.of(0, 0));
        Twins.refused(Check.BEYOND, Roads::empty, "taskOf(0, 0)", x -> x.taskOf(0, 0));
        for (int which = -1; which <= 6; which++) {
            Check.due("status(" + which + ")", new SixFellows().status(which), 0);
        }
    }

    private static void emptyTape() {
        Document.promise(1, "THE TAPE is empty,");
        Check.due("count(2)", new SixFellows().count(2), 0);
        Check.due("wipe()", new SixFellows().wipe(), 0);
        Check.due("road(): ends too early at 0", new SixFellows().road(), -1);
        Check.due("feed(97, 1)", new SixFellows().feed(97, 1), 1);
    }

    private static void noImage() {
        Document.promise(1, "no image is kept.");
        Check.due("tear()", new SixFellows().tear(), 0);
        Twins.refused(Check.NONE, Roads::empty, "undo()", x -> x.undo());
    }

    private static void fellowIsNumbered() {
        Document.promise(2, "A new FELLOW: its number.");
        int[][] bounds = {{0, 0}, {0, 30}, {5, 0}, {5, 30}, {4, 29}, {1, 1}, {3, 15}};
        SixFellows x = new SixFellows();
        for (int i = 0; i < bounds.length; i++) {
            Check.due("fellow " + i, x.fellow(bounds[i][0], bounds[i][1]), i);
            Check.due("there are", x.count(0), i + 1);
        }
        for (int i = 0; i < bounds.length; i++) {
            int[] want = {bounds[i][0], bounds[i][1], bounds[i][1], 3, 0};
            for (int what = 0; what < want.length; what++) {
                Check.due("of(" + i + ", " + what + ") of a new one", x.of(i, what), want[what]);
            }
        }
        Check.due("no findings", x.status(-1), 0);
    }

    private static void fellowBeyond() {
        Document.promise(2, "BEYOND: kind, mile.");
        Twins.beyond(Roads::empty, "fellow(?, 0)", 0, 5, (x, v) -> x.fellow(v, 0));
        Twins.beyond(Roads::empty, "fellow(0, ?)", 0, 30, (x, v) -> x.fellow(0, v));
        Twins.beyond(Roads::some, "fellow(?, 30)", 0, 5, (x, v) -> x.fellow(v, 30));
        Twins.beyond(Roads::some, "fellow(5, ?)", 0, 30, (x, v) -> x.fellow(5, v));
        Twins.refused(Check.BEYOND, Roads::some, "fellow(6, 31): one finding", x -> x.fellow(6, 31));
    }

    private static void fellowFull() {
        Document.promise(2, "FULL.");
        Twins.refused(Check.FULL, Roads::full, "fellow(0, 0)", x -> x.fellow(0, 0));
        Twins.refused(Check.FULL, Roads::full, "fellow(5, 30)", x -> x.fellow(5, 30));
        Twins.beyond(Roads::full, "fellow(?, 0), asked ahead of FULL", 0, 5, (x, v) -> x.fellow(v, 0));
        Twins.beyond(Roads::full, "fellow(0, ?), asked ahead of FULL", 0, 30, (x, v) -> x.fellow(0, v));
        SixFellows x = Roads.full();
        Check.due("undo() to six", x.undo(), 6);
        Check.due("room again", x.fellow(0, 0), 6);
        Check.due("none for an 8th", x.fellow(0, 0), Check.FULL);
    }

    private static void ofWhatIsHeld() {
        Document.promise(3, "Of a FELLOW: what 0 KIND, 1 AT, 2 GOAL, 3 SKILL, 4 1 if ASLEEP, else 0,");
        int[][] held = {{0, 0, 30, 1, 0}, {5, 30, 0, 9, 1}, {4, 15, 16, 5, 0}, {3, 1, 2, 4, 1}, {2, 3, 3, 3, 0}, {1, 29, 28, 8, 1},
            {0, 7, 6, 2, 1}};
        SixFellows x = new SixFellows();
        for (int i = 0; i < held.length; i++) {
            x.fellow(held[i][0], held[i][1]);
            for (int what = 2; what <= 4; what++) {
                x.set(i, what, held[i][what]);
            }
        }
        for (int i = 0; i < held.length; i++) {
            for (int what = 0; what <= 4; what++) {
                Check.due("of(" + i + ", " + what + ")", x.of(i, what), held[i][what]);
            }
        }
        for (int what = 0; what <= 4; what++) {
            int w = what;
            Twins.answered(new int[] {4, 12, 0, 3, 0}[w], Roads::some, "of(0, " + w + ")", y -> y.of(0, w));
        }
    }

    private static void ofSpoilt() {
        Document.promise(3, "5 1 if SPOILT, else 0 (asleep or not),");
        Twins.answered(1, () -> beside(2, 0, 3, 2), "a hunter 2 miles from a blower: of(0, 5)", x -> x.of(0, 5));
        Twins.answered(0, () -> beside(2, 0, 3, 3), "a hunter 3 miles from a blower: of(0, 5)", x -> x.of(0, 5));
        Twins.answered(0, () -> beside(2, 0, 3, 2), "the blower: of(1, 5)", x -> x.of(1, 5));
        Twins.answered(1, () -> asleep(beside(2, 30, 3, 28), 0), "a hunter asleep: of(0, 5)", x -> x.of(0, 5));
        Twins.answered(0, () -> asleep(beside(2, 30, 3, 28), 1), "a blower asleep: of(0, 5)", x -> x.of(0, 5));
        SixFellows seven = Roads.seven(1, 4);
        seven.turn(6, 5);
        for (int i = 0; i < 7; i++) {
            Check.due("of seven, the last hatted: of(" + i + ", 5)", seven.of(i, 5), i < 6 ? 1 : 0);
        }
    }

    private static SixFellows beside(int kind, int mile, int otherKind, int otherMile) {
        SixFellows x = new SixFellows();
        x.fellow(kind, mile);
        x.fellow(otherKind, otherMile);
        return x;
    }

    private static SixFellows asleep(SixFellows x, int fellow) {
        x.set(fellow, 4, 1);
        return x;
    }

    private static void ofPace() {
        Document.promise(3, "6 PACE,");
        for (int kind = 0; kind < 6; kind++) {
            SixFellows x = new SixFellows();
            x.fellow(kind, 30);
            Check.due("pace of kind " + kind, x.of(0, 6), PACES[kind]);
            x.set(0, 4, 1);
            Check.due("pace of kind " + kind + " asleep", x.of(0, 6), PACES[kind]);
        }
    }

    private static void ofHours() {
        Document.promise(3, "7 hours ON which it is at its GOAL first (if it were awake).");
        int[][] hoursByMiles = {{0, 0, 0}, {1, 1, 1}, {3, 1, 1}, {4, 2, 1}, {6, 2, 1}, {7, 3, 2}, {24, 8, 4}, {25, 9, 5}, {27, 9, 5},
            {28, 10, 5}, {29, 10, 5}, {30, 10, 5}};
        for (int[] h : hoursByMiles) {
            int[] wanted = {h[0], h[1], h[0], h[0], h[2], h[0]};
            for (int kind = 0; kind < 6; kind++) {
                hoursAre(kind, 0, h[0], wanted[kind]);
                hoursAre(kind, 30, 30 - h[0], wanted[kind]);
            }
        }
    }

    private static void hoursAre(int kind, int mile, int goal, int hours) {
        SixFellows x = new SixFellows();
        x.fellow(kind, mile);
        x.set(0, 2, goal);
        String call = "kind " + kind + " from " + mile + " to " + goal;
        Check.due(call, x.of(0, 7), hours);
        x.set(0, 4, 1);
        Check.due(call + ", asleep", x.of(0, 7), hours);
        x.set(0, 4, 0);
        if (hours > 1) {
            x.hours(hours - 1);
            Check.holds(call + ": not there an hour before", x.of(0, 1) != goal);
            x.hours(1);
            Check.due(call + ": there", x.of(0, 1), goal);
        }
    }

    private static void ofBeyond() {
        Document.promise(3, "BEYOND.");
        Twins.beyond(Roads::empty, "nobody: of(?, 0)", 0, -1, (x, v) -> x.of(v, 0));
        Twins.beyond(Roads::some, "of(?, 7)", 0, Roads.SOME_FELLOWS - 1, (x, v) -> x.of(v, 7));
        Twins.beyond(Roads::full, "seven: of(?, 1)", 0, 6, (x, v) -> x.of(v, 1));
        Twins.beyond(Roads::some, "of(0, ?)", 0, 7, (x, v) -> x.of(0, v));
        Twins.beyond(Roads::full, "of(6, ?)", 0, 7, (x, v) -> x.of(6, v));
        Twins.refused(Check.BEYOND, Roads::some, "of(4, 8): one finding", x -> x.of(4, 8));
    }

    private static void setWithinBounds() {
        Document.promise(4, "AT (what 1), GOAL (2), SKILL (3), ASLEEP (4; 1, 0) becomes v: what it was.");
        int[][] bounds = {{1, 0, 30}, {2, 0, 30}, {3, 1, 9}, {4, 0, 1}};
        for (int fellow = 0; fellow < 7; fellow += 3) {
            for (int[] b : bounds) {
                SixFellows x = Roads.full();
                int was = x.of(fellow, b[0]);
                String call = "set(" + fellow + ", " + b[0] + ", ";
                Check.due(call + b[1] + ")", x.set(fellow, b[0], b[1]), was);
                Check.due(call + b[2] + ")", x.set(fellow, b[0], b[2]), b[1]);
                Check.due(call + b[2] + ") again", x.set(fellow, b[0], b[2]), b[2]);
                Check.due("it is", x.of(fellow, b[0]), b[2]);
                Check.due("back again", x.set(fellow, b[0], was), b[2]);
                Check.due("no findings", x.status(-1), 0);
                Twins.isAsItsTwin(call + "..), which changes no other,", x, Roads.full());
            }
        }
    }

    private static void setBeyond() {
        Document.promise(4, "BEYOND.");
        Twins.beyond(Roads::empty, "nobody: set(?, 1, 1)", 0, -1, (x, v) -> x.set(v, 1, 1));
        Twins.beyond(Roads::some, "set(?, 4, 1)", 0, Roads.SOME_FELLOWS - 1, (x, v) -> x.set(v, 4, 1));
        Twins.beyond(Roads::full, "seven: set(?, 3, 1)", 0, 6, (x, v) -> x.set(v, 3, 1));
        Twins.beyond(Roads::some, "set(0, ?, 1)", 1, 4, (x, v) -> x.set(0, v, 1));
        Twins.beyond(Roads::some, "set(0, 1, ?)", 0, 30, (x, v) -> x.set(0, 1, v));
        Twins.beyond(Roads::some, "set(0, 2, ?)", 0, 30, (x, v) -> x.set(0, 2, v));
        Twins.beyond(Roads::some, "set(0, 3, ?)", 1, 9, (x, v) -> x.set(0, 3, v));
        Twins.beyond(Roads::some, "set(0, 4, ?)", 0, 1, (x, v) -> x.set(0, 4, v));
        Twins.beyond(Roads::full, "set(6, 4, ?)", 0, 1, (x, v) -> x.set(6, 4, v));
    }

    private static void turnToEachKind() {
        Document.promise(5, "A FELLOW becomes one of another KIND: what it was.");
        for (int from = 0; from < 6; from++) {
            for (int to = 0; to < 6; to++) {
                SixFellows x = Roads.full();
                x.turn(6, from);
                Check.due("turn(6, " + to + ")", x.turn(6, to), from);
                Check.due("it is", x.of(6, 0), to);
                Check.due("its pace is", x.of(6, 6), PACES[to]);
                x.turn(6, 3);
                Twins.isAsItsTwin("turn(6, " + to + "), which changes no other,", x, Roads.full());
            }
        }
        Twins.answered(0, Roads::some, "turn(1, 0) to what it is", x -> x.turn(1, 0));
    }

    private static void turnBeyond() {
        Document.promise(5, "BEYOND.");
        Twins.beyond(Roads::empty, "nobody: turn(?, 0)", 0, -1, (x, v) -> x.turn(v, 0));
        Twins.beyond(Roads::some, "turn(?, 1)", 0, Roads.SOME_FELLOWS - 1, (x, v) -> x.turn(v, 1));
        Twins.beyond(Roads::full, "seven: turn(?, 0)", 0, 6, (x, v) -> x.turn(v, 0));
        Twins.beyond(Roads::some, "turn(0, ?)", 0, 5, (x, v) -> x.turn(0, v));
        Twins.beyond(Roads::full, "turn(6, ?)", 0, 5, (x, v) -> x.turn(6, v));
    }

    private static void asOneOfAKind() {
        Document.promise(6, "A FELLOW as one of a kind: SKILL.");
        int[][] kindAndAbove = {{0, 0}, {1, 1}, {1, 0}, {2, 2}, {2, 0}, {3, 3}, {3, 0}, {4, 4}, {4, 1}, {4, 0}, {5, 5}, {5, 3}, {5, 0}};
        for (int[] k : kindAndAbove) {
            for (int skill = 1; skill <= 9; skill += 8) {
                SixFellows x = Roads.seven(k[0], 30);
                x.set(6, 3, skill);
                Check.due("kind " + k[0] + " as " + k[1], x.as(6, k[1]), skill);
                Check.due("no findings", x.status(-1), 0);
            }
        }
        Twins.answered(8, Roads::some, "as(1, 0) of one asleep", x -> x.as(1, 0));
    }

    private static void asBeyond() {
        Document.promise(6, "BEYOND: no such one, kind.");
        Twins.beyond(Roads::empty, "nobody: as(?, 0)", 0, -1, (x, v) -> x.as(v, 0));
        Twins.beyond(Roads::some, "as(?, 0)", 0, Roads.SOME_FELLOWS - 1, (x, v) -> x.as(v, 0));
        Twins.beyond(Roads::full, "seven: as(?, 5)", 0, 6, (x, v) -> x.as(v, 5));
        Twins.beyond(Roads::some, "as(0, ?), asked ahead of KIND", 0, 5, (x, v) -> x.as(0, v));
        Twins.beyond(Roads::full, "as(6, ?), asked ahead of KIND", 0, 5, (x, v) -> x.as(6, v));
    }

    private static void asOfAnotherKind() {
        Document.promise(6, "KIND: it isn't of that kind, nor of one under it.");
        int[][] others = {{1, 2, 3, 4, 5}, {2, 3, 4, 5}, {1, 3, 4, 5}, {1, 2, 4, 5}, {2, 3, 5}, {1, 2, 4}};
        for (int kind = 0; kind < 6; kind++) {
            int k = kind;
            for (int other : others[kind]) {
                Twins.refused(Check.KIND, () -> Roads.seven(k, 0), "kind " + k + ": as(6, " + other + ")", x -> x.as(6, other));
            }
        }
        Twins.refused(Check.KIND, Roads::some, "as(1, 5) of one asleep", x -> x.as(1, 5));
    }

    private static void doesByEachSort() {
        Document.promise(7, "What one DOES by a SORT.");
        for (int kind = 0; kind < 6; kind++) {
            for (int sort = 0; sort < 5; sort++) {
                for (int skill = 1; skill <= 9; skill++) {
                    SixFellows x = Roads.seven(kind, 30);
                    x.set(6, 3, skill);
                    x.set(6, 4, skill % 2);
                    Check.due("kind " + kind + " by " + skill + ": does(6, " + sort + ")", x.does(6, sort), work(kind, sort, skill));
                }
            }
        }
        Twins.answered(18, Roads::some, "a hunter spoilt does no less: does(2, 1)", x -> x.does(2, 1));
        Twins.answered(16, Roads::some, "one asleep does no less: does(1, 4)", x -> x.does(1, 4));
    }

    private static int work(int kind, int sort, int skill) {
        int[] halvesOf7 = {0, 3, 7, 10, 14, 17, 21, 24, 28, 31};
        int carry = kind == 4 ? 0 : skill + skill;
        int[][] special = {{1, 1, 1, 1}, {5 * skill, 1, 1, 1}, {1, 6 * skill, 1, 1}, {1, 1, 7 * skill, 1}, {10 * skill, 1, 1, 1},
            {1, 1, halvesOf7[skill], 8 * skill}};
        return sort == 4 ? carry : special[kind][sort];
    }

    private static void doesBeyond() {
        Document.promise(7, "BEYOND.");
        Twins.beyond(Roads::empty, "nobody: does(?, 0)", 0, -1, (x, v) -> x.does(v, 0));
        Twins.beyond(Roads::some, "does(?, 4)", 0, Roads.SOME_FELLOWS - 1, (x, v) -> x.does(v, 4));
        Twins.beyond(Roads::full, "seven: does(?, 0)", 0, 6, (x, v) -> x.does(v, 0));
        Twins.beyond(Roads::some, "does(0, ?)", 0, 4, (x, v) -> x.does(0, v));
        Twins.beyond(Roads::full, "does(6, ?)", 0, 4, (x, v) -> x.does(6, v));
    }
}

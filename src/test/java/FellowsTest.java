/** Promises 1 to 7. */
final class FellowsTest {
    public static void main(String[] args) {
        newObject();
        fellow();
        ofWhatItHolds();
        ofSpoilt();
        ofPaceAndHours();
        set();
        turn();
        as();
        does();
        Check.end();
    }

    private static void newObject() {
        SixFellows x = new SixFellows();
        for (int what = 0; what <= 4; what++) {
            Check.due("new: count(" + what + ")", x.count(what), 0);
        }
        for (int what = 0; what <= 5; what++) {
            Check.due("new: now(" + what + ")", x.now(what), 0);
        }
        Check.due("new: status(-1)", x.status(-1), 0);
        Check.due("new: wipe()", x.wipe(), 0);
        Check.due("new: tear()", x.tear(), 0);
        Check.due("new: undo()", x.undo(), Check.NONE);
        for (int s = 0; s < 4; s++) {
            Check.due("new: sheet " + s, x.write(s, 0, 1), Check.MISSING);
        }
        Check.due("new: of(0, 0)", x.of(0, 0), Check.BEYOND);
        Check.due("new: taskOf(0, 0)", x.taskOf(0, 0), Check.BEYOND);
    }

    private static void fellow() {
        SixFellows x = new SixFellows();
        Check.due("fellow(-1, 0)", x.fellow(-1, 0), Check.BEYOND);
        Check.due("fellow(6, 0)", x.fellow(6, 0), Check.BEYOND);
        Check.due("fellow(0, -1)", x.fellow(0, -1), Check.BEYOND);
        Check.due("fellow(0, 31)", x.fellow(0, 31), Check.BEYOND);
        Check.due("fellow(min, max)", x.fellow(Integer.MIN_VALUE, Integer.MAX_VALUE), Check.BEYOND);
        Check.due("none came", x.count(0), 0);
        for (int i = 0; i < 7; i++) {
            Check.due("fellow " + i, x.fellow(i % 6, i * 5), i);
            Check.due("there are", x.count(0), i + 1);
        }
        Check.due("an 8th", x.fellow(0, 0), Check.FULL);
        Check.due("BEYOND is asked ahead of FULL: kind", x.fellow(6, 0), Check.BEYOND);
        Check.due("BEYOND is asked ahead of FULL: mile", x.fellow(0, 31), Check.BEYOND);
        Check.due("still seven", x.count(0), 7);
        Check.due("FULL is counted", x.status(1), 1);
        Check.due("BEYOND is counted", x.status(0), 7);
    }

    private static void ofWhatItHolds() {
        SixFellows x = new SixFellows();
        for (int kind = 0; kind < 6; kind++) {
            x.fellow(kind, 6 * kind);
        }
        for (int kind = 0; kind < 6; kind++) {
            Check.due("of kind", x.of(kind, 0), kind);
            Check.due("of mile", x.of(kind, 1), 6 * kind);
            Check.due("of goal: where it came", x.of(kind, 2), 6 * kind);
            Check.due("of skill: 3 at first", x.of(kind, 3), 3);
            Check.due("of asleep: awake at first", x.of(kind, 4), 0);
        }
        Check.due("of(-1, 0)", x.of(-1, 0), Check.BEYOND);
        Check.due("of(6, 0)", x.of(6, 0), Check.BEYOND);
        Check.due("of(7, 0)", x.of(7, 0), Check.BEYOND);
        Check.due("of(0, -1)", x.of(0, -1), Check.BEYOND);
        Check.due("of(0, 8)", x.of(0, 8), Check.BEYOND);
        Check.due("of(max, min)", x.of(Integer.MAX_VALUE, Integer.MIN_VALUE), Check.BEYOND);
        Check.due("six findings", x.status(0), 6);
    }

    /** One of each kind beside one of each other kind: who spoils whom. */
    private static void ofSpoilt() {
        int[] spoiltBy = {0, 1 << 5, 1 << 3 | 1 << 5, 0, 1 << 5, 0};
        for (int kind = 0; kind < 6; kind++) {
            for (int other = 0; other < 6; other++) {
                for (int away = -3; away <= 3; away++) {
                    boolean near = away >= -2 && away <= 2;
                    int want = near ? spoiltBy[kind] >> other & 1 : 0;
                    SixFellows x = new SixFellows();
                    x.fellow(kind, 15);
                    x.fellow(other, 15 + away);
                    String call = "kind " + kind + " with " + other + " " + away + " away";
                    Check.due(call, x.of(0, 5), want);
                    x.set(0, 4, 1);
                    Check.due(call + ", itself asleep", x.of(0, 5), want);
                    x.set(1, 4, 1);
                    Check.due(call + ", both asleep", x.of(0, 5), 0);
                }
            }
        }
        SixFellows alone = new SixFellows();
        alone.fellow(5, 3);
        Check.due("none spoils itself", alone.of(0, 5), 0);
    }

    private static void ofPaceAndHours() {
        int[] paces = {1, 3, 1, 1, 6, 1};
        for (int kind = 0; kind < 6; kind++) {
            SixFellows x = new SixFellows();
            x.fellow(kind, 10);
            Check.due("pace of " + kind, x.of(0, 6), paces[kind]);
            Check.due("no hours to where it is", x.of(0, 7), 0);
            for (int goal = 0; goal <= 30; goal++) {
                x.set(0, 2, goal);
                x.set(0, 4, goal % 2);
                int way = Math.abs(goal - 10);
                int hours = way / paces[kind] + (way % paces[kind] == 0 ? 0 : 1);
                Check.due("hours of " + kind + " to " + goal, x.of(0, 7), hours);
            }
        }
    }

    private static void set() {
        SixFellows x = new SixFellows();
        x.fellow(0, 4);
        x.fellow(0, 9);
        Check.due("set mile", x.set(1, 1, 30), 9);
        Check.due("set mile again", x.set(1, 1, 0), 30);
        Check.due("the goal stays", x.of(1, 2), 9);
        Check.due("set goal", x.set(1, 2, 30), 9);
        Check.due("set goal again", x.set(1, 2, 0), 30);
        Check.due("set skill", x.set(1, 3, 9), 3);
        Check.due("set skill again", x.set(1, 3, 1), 9);
        Check.due("set asleep", x.set(1, 4, 1), 0);
        Check.due("it is asleep", x.of(1, 4), 1);
        Check.due("set asleep again", x.set(1, 4, 1), 1);
        Check.due("set awake", x.set(1, 4, 0), 1);
        Check.due("it is awake", x.of(1, 4), 0);
        int[][] wrong = {{-1, 1, 0}, {2, 1, 0}, {1, 0, 0}, {1, 5, 0}, {1, -1, 0}, {1, 1, -1}, {1, 1, 31},
            {1, 2, -1}, {1, 2, 31}, {1, 3, 0}, {1, 3, 10}, {1, 4, -1}, {1, 4, 2}, {7, 4, 0}};
        for (int[] w : wrong) {
            Check.due("set(" + w[0] + ", " + w[1] + ", " + w[2] + ")", x.set(w[0], w[1], w[2]), Check.BEYOND);
        }
        int[] after = {0, 0, 0, 1, 0};
        for (int what = 0; what < after.length; what++) {
            Check.due("left as it was: " + what, x.of(1, what), after[what]);
        }
        int[] other = {0, 4, 4, 3, 0};
        for (int what = 0; what < other.length; what++) {
            Check.due("the other one stays: " + what, x.of(0, what), other[what]);
        }
        Check.due("all are counted", x.status(0), wrong.length);
    }

    private static void turn() {
        SixFellows x = new SixFellows();
        x.fellow(4, 7);
        x.set(0, 2, 8);
        x.set(0, 3, 5);
        x.set(0, 4, 1);
        Check.due("turn(0, 5)", x.turn(0, 5), 4);
        Check.due("turn(0, 5) again", x.turn(0, 5), 5);
        int[] after = {5, 7, 8, 5, 1};
        for (int what = 0; what < after.length; what++) {
            Check.due("turned: " + what, x.of(0, what), after[what]);
        }
        Check.due("turn(0, 0)", x.turn(0, 0), 5);
        Check.due("turn(0, -1)", x.turn(0, -1), Check.BEYOND);
        Check.due("turn(0, 6)", x.turn(0, 6), Check.BEYOND);
        Check.due("turn(-1, 0)", x.turn(-1, 0), Check.BEYOND);
        Check.due("turn(1, 0)", x.turn(1, 0), Check.BEYOND);
        Check.due("it stays", x.of(0, 0), 0);
    }

    private static void as() {
        int[] isOf = {0b000001, 0b000011, 0b000101, 0b001001, 0b010011, 0b101001};
        SixFellows x = new SixFellows();
        for (int kind = 0; kind < 6; kind++) {
            x.fellow(kind, 0);
            x.set(kind, 3, kind + 2);
        }
        for (int kind = 0; kind < 6; kind++) {
            for (int wanted = 0; wanted < 6; wanted++) {
                boolean is = (isOf[kind] >> wanted & 1) == 1;
                Check.due("as(" + kind + ", " + wanted + ")", x.as(kind, wanted), is ? kind + 2 : Check.KIND);
            }
        }
        Check.due("as(0, -1)", x.as(0, -1), Check.BEYOND);
        Check.due("as(0, 6)", x.as(0, 6), Check.BEYOND);
        Check.due("as(-1, 0)", x.as(-1, 0), Check.BEYOND);
        Check.due("as(6, 5)", x.as(6, 5), Check.BEYOND);
        Check.due("KIND is counted", x.status(2), 36 - 13);
        Check.due("BEYOND is counted", x.status(0), 4);
    }

    private static void does() {
        int[][] with3 = {{1, 1, 1, 1, 6}, {15, 1, 1, 1, 6}, {1, 18, 1, 1, 6}, {1, 1, 21, 1, 6},
            {30, 1, 1, 1, 0}, {1, 1, 10, 24, 6}};
        int[][] with9 = {{1, 1, 1, 1, 18}, {45, 1, 1, 1, 18}, {1, 54, 1, 1, 18}, {1, 1, 63, 1, 18},
            {90, 1, 1, 1, 0}, {1, 1, 31, 72, 18}};
        int[][] with1 = {{1, 1, 1, 1, 2}, {5, 1, 1, 1, 2}, {1, 6, 1, 1, 2}, {1, 1, 7, 1, 2},
            {10, 1, 1, 1, 0}, {1, 1, 3, 8, 2}};
        SixFellows x = new SixFellows();
        for (int kind = 0; kind < 6; kind++) {
            x.fellow(kind, 0);
        }
        for (int kind = 0; kind < 6; kind++) {
            for (int sort = 0; sort < 5; sort++) {
                String call = "does(" + kind + ", " + sort + ")";
                x.set(kind, 3, 3);
                Check.due(call, x.does(kind, sort), with3[kind][sort]);
                x.set(kind, 3, 9);
                Check.due(call + " by 9", x.does(kind, sort), with9[kind][sort]);
                x.set(kind, 3, 1);
                x.set(kind, 4, 1);
                Check.due(call + " by 1, asleep", x.does(kind, sort), with1[kind][sort]);
                x.set(kind, 4, 0);
            }
        }
        Check.due("does(0, -1)", x.does(0, -1), Check.BEYOND);
        Check.due("does(0, 5)", x.does(0, 5), Check.BEYOND);
        Check.due("does(-1, 0)", x.does(-1, 0), Check.BEYOND);
        Check.due("does(6, 0)", x.does(6, 0), Check.BEYOND);
        Check.due("all are counted", x.status(-1), 4);
    }
}

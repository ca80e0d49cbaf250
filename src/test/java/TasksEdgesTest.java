/** Promises 8 to 11, sentence by sentence, at their bounds. */
final class TasksEdgesTest {
    public static void main(String[] args) {
        taskIsNumbered();
        taskBeyond();
        taskFull();
        taskOfWhatIsHeld();
        taskOfHelp();
        taskOfMet();
        taskOfHelpers();
        taskOfBeyond();
        helpsATask();
        helpsBeyond();
        doneClosesUp();
        doneBeyond();
        Document.allPromisesAreNamed(8, 11);
        Check.end();
    }

    private static final int[][] AT_BOUNDS = {{0, 0, 1, 0}, {4, 30, 99, 99}, {0, 30, 1, 99}, {4, 0, 99, 0}, {1, 1, 2, 1}, {2, 29, 98, 98},
        {3, 15, 50, 50}, {4, 30, 1, 0}};

    private static void taskIsNumbered() {
        Document.promise(8, "A new TASK: its number.");
        SixFellows x = new SixFellows();
        for (int i = 0; i < 8; i++) {
            int[] t = AT_BOUNDS[i];
            Check.due("task " + i, x.task(t[0], t[1], t[2], t[3]), i);
            Check.due("there are", x.count(1), i + 1);
        }
        Check.due("no findings", x.status(-1), 0);
    }

    private static void taskBeyond() {
        Document.promise(8, "BEYOND.");
        Twins.beyond(Roads::empty, "task(?, 0, 1, 0)", 0, 4, (x, v) -> x.task(v, 0, 1, 0));
        Twins.beyond(Roads::empty, "task(0, ?, 1, 0)", 0, 30, (x, v) -> x.task(0, v, 1, 0));
        Twins.beyond(Roads::empty, "task(0, 0, ?, 0)", 1, 99, (x, v) -> x.task(0, 0, v, 0));
        Twins.beyond(Roads::empty, "task(0, 0, 1, ?)", 0, 99, (x, v) -> x.task(0, 0, 1, v));
        Twins.beyond(Roads::some, "task(?, 30, 99, 99)", 0, 4, (x, v) -> x.task(v, 30, 99, 99));
        Twins.beyond(Roads::some, "task(4, ?, 99, 99)", 0, 30, (x, v) -> x.task(4, v, 99, 99));
        Twins.beyond(Roads::some, "task(4, 30, ?, 99)", 1, 99, (x, v) -> x.task(4, 30, v, 99));
        Twins.beyond(Roads::some, "task(4, 30, 99, ?)", 0, 99, (x, v) -> x.task(4, 30, 99, v));
        Twins.refused(Check.BEYOND, Roads::some, "task(5, 31, 0, 100): one finding", x -> x.task(5, 31, 0, 100));
    }

    private static void taskFull() {
        Document.promise(8, "FULL.");
        Twins.refused(Check.FULL, Roads::full, "task(0, 0, 1, 0)", x -> x.task(0, 0, 1, 0));
        Twins.refused(Check.FULL, Roads::full, "task(4, 30, 99, 99)", x -> x.task(4, 30, 99, 99));
        Twins.beyond(Roads::full, "task(?, 0, 1, 0), asked ahead of FULL", 0, 4, (x, v) -> x.task(v, 0, 1, 0));
        Twins.beyond(Roads::full, "task(0, ?, 1, 0), asked ahead of FULL", 0, 30, (x, v) -> x.task(0, v, 1, 0));
        Twins.beyond(Roads::full, "task(0, 0, ?, 0), asked ahead of FULL", 1, 99, (x, v) -> x.task(0, 0, v, 0));
        Twins.beyond(Roads::full, "task(0, 0, 1, ?), asked ahead of FULL", 0, 99, (x, v) -> x.task(0, 0, 1, v));
        SixFellows x = Roads.full();
        x.done(0);
        Check.due("room again", x.task(0, 0, 1, 0), 7);
        Check.due("none for a 9th", x.task(0, 0, 1, 0), Check.FULL);
    }

    private static void taskOfWhatIsHeld() {
        Document.promise(9, "Of a TASK: what 0 SORT, 1 MILE, 2 NEED, 3 PAY,");
        SixFellows x = new SixFellows();
        for (int[] t : AT_BOUNDS) {
            x.task(t[0], t[1], t[2], t[3]);
        }
        for (int i = 0; i < 8; i++) {
            for (int what = 0; what < 4; what++) {
                Check.due("taskOf(" + i + ", " + what + ")", x.taskOf(i, what), AT_BOUNDS[i][what]);
            }
        }
        for (int what = 0; what < 4; what++) {
            int w = what;
            Twins.answered(new int[] {4, 2, 7, 9}[w], Roads::some, "taskOf(2, " + w + ")", y -> y.taskOf(2, w));
        }
    }

    private static void taskOfHelp() {
        Document.promise(9, "4 what all HELP it together,");
        Twins.answered(0, TasksEdgesTest::taskForNobody, "nobody: taskOf(0, 4)", x -> x.taskOf(0, 4));
        SixFellows seven = Roads.seven(4, 30);
        for (int i = 0; i < 7; i++) {
            seven.set(i, 3, 9);
        }
        for (int i = 0; i < 8; i++) {
            seven.task(0, 30, 99, 0);
        }
        Check.due("seven times 90: taskOf(7, 4)", seven.taskOf(7, 4), 630);
        seven.set(6, 4, 1);
        Check.due("six times 90: taskOf(7, 4)", seven.taskOf(7, 4), 540);
        SixFellows far = Roads.seven(0, 0);
        far.task(4, 6, 1, 0);
        Check.due("none is below 0: taskOf(0, 4)", far.taskOf(0, 4), 0);
        far.task(4, 30, 1, 0);
        Check.due("nor if much farther: taskOf(1, 4)", far.taskOf(1, 4), 0);
    }

    private static SixFellows taskForNobody() {
        SixFellows x = new SixFellows();
        x.task(4, 0, 1, 99);
        return x;
    }

    private static SixFellows taskForSeven(int need) {
        SixFellows x = Roads.seven(0, 5);
        for (int i = 0; i < 8; i++) {
            x.task(4, 5, need, 99);
        }
        return x;
    }

    private static void taskOfMet() {
        Document.promise(9, "5 1 if MET, else 0,");
        Twins.answered(0, TasksEdgesTest::taskForNobody, "nobody: taskOf(0, 5)", x -> x.taskOf(0, 5));
        Twins.answered(1, () -> taskForSeven(41), "42 of 41: taskOf(7, 5)", x -> x.taskOf(7, 5));
        Twins.answered(1, () -> taskForSeven(42), "42 of 42: taskOf(7, 5)", x -> x.taskOf(7, 5));
        Twins.answered(0, () -> taskForSeven(43), "42 of 43: taskOf(7, 5)", x -> x.taskOf(7, 5));
        SixFellows most = Check.road("legged at 0 skill 9; runner at 0 skill 2; task run at 1 need 98 pay 0; task run at 1 need 99 pay 0");
        Check.due("98 of 98", most.taskOf(0, 5), 1);
        Check.due("98 of 99", most.taskOf(1, 5), 0);
        most.set(1, 1, 1);
        Check.due("99 of 99", most.taskOf(1, 5), 1);
    }

    private static void taskOfHelpers() {
        Document.promise(9, "6 those who HELP it by 1 or more, as a set.");
        Twins.answered(0, TasksEdgesTest::taskForNobody, "nobody: taskOf(0, 6)", x -> x.taskOf(0, 6));
        Twins.answered(127, () -> taskForSeven(99), "seven: taskOf(7, 6)", x -> x.taskOf(7, 6));
        SixFellows x = Check.road("fellow at 5; fellow at 6; fellow at 0; fellow at 10; fellow at 11; fellow at 0 skill 2; fellow at 5 asleep;"
            + " task carry at 5 need 1 pay 0; task run at 5 need 1 pay 0");
        Check.due("by 6, 5, 1, 1, 0, 0 and asleep", x.taskOf(0, 6), 0b0001111);
        Check.due("by 1, 0, ..", x.taskOf(1, 6), 0b0000001);
    }

    private static void taskOfBeyond() {
        Document.promise(9, "BEYOND.");
        Twins.beyond(Roads::empty, "no task: taskOf(?, 0)", 0, -1, (x, v) -> x.taskOf(v, 0));
        Twins.beyond(Roads::some, "taskOf(?, 6)", 0, Roads.SOME_TASKS - 1, (x, v) -> x.taskOf(v, 6));
        Twins.beyond(Roads::full, "eight: taskOf(?, 4)", 0, 7, (x, v) -> x.taskOf(v, 4));
        Twins.beyond(Roads::some, "taskOf(0, ?)", 0, 6, (x, v) -> x.taskOf(0, v));
        Twins.beyond(Roads::full, "taskOf(7, ?)", 0, 6, (x, v) -> x.taskOf(7, v));
    }

    private static void helpsATask() {
        Document.promise(10, "What one HELPS a TASK.");
        int[][] milesAndHelp = {{0, 6}, {1, 5}, {5, 1}, {6, 0}, {7, 0}, {30, 0}};
        for (int[] m : milesAndHelp) {
            SixFellows x = Roads.seven(0, 30);
            x.set(6, 1, m[0]);
            x.set(5, 1, 30 - m[0]);
            for (int i = 0; i < 7; i++) {
                x.task(4, 0, 1, 0);
            }
            x.task(4, 30, 1, 0);
            Check.due(m[0] + " miles on: helps(6, 6)", x.helps(6, 6), m[1]);
            Check.due(m[0] + " miles back: helps(5, 7)", x.helps(5, 7), m[1]);
            x.set(6, 4, 1);
            Check.due("asleep: helps(6, 6)", x.helps(6, 6), 0);
        }
        Twins.answered(60, () -> Check.road("legged at 30 skill 9; task run at 0 need 99 pay 0"), "90 less 30: helps(0, 0)", x -> x.helps(0, 0));
        Twins.answered(9, Roads::some, "half of 18, spoilt: helps(2, 1)", x -> x.helps(2, 1));
    }

    private static void helpsBeyond() {
        Document.promise(10, "BEYOND.");
        Twins.beyond(Roads::empty, "nobody, no task: helps(?, 0)", 0, -1, (x, v) -> x.helps(v, 0));
        Twins.beyond(TasksEdgesTest::taskForNobody, "nobody: helps(?, 0)", 0, -1, (x, v) -> x.helps(v, 0));
        Twins.beyond(() -> Roads.seven(0, 0), "no task: helps(6, ?)", 0, -1, (x, v) -> x.helps(6, v));
        Twins.beyond(Roads::some, "helps(?, 0)", 0, Roads.SOME_FELLOWS - 1, (x, v) -> x.helps(v, 0));
        Twins.beyond(Roads::some, "helps(0, ?)", 0, Roads.SOME_TASKS - 1, (x, v) -> x.helps(0, v));
        Twins.beyond(Roads::full, "seven: helps(?, 7)", 0, 6, (x, v) -> x.helps(v, 7));
        Twins.beyond(Roads::full, "eight: helps(6, ?)", 0, 7, (x, v) -> x.helps(6, v));
    }

    private static void doneClosesUp() {
        Document.promise(11, "A TASK is gone; those behind it close up: its PAY.");
        for (int gone = 0; gone < 8; gone++) {
            SixFellows x = new SixFellows();
            for (int[] t : AT_BOUNDS) {
                x.task(t[0], t[1], t[2], t[3]);
            }
            Check.due("done(" + gone + ")", x.done(gone), AT_BOUNDS[gone][3]);
            Check.due("seven are left", x.count(1), 7);
            for (int i = 0; i < 7; i++) {
                for (int what = 0; what < 4; what++) {
                    Check.due("behind done(" + gone + "): taskOf(" + i + ", " + what + ")", x.taskOf(i, what),
                        AT_BOUNDS[i < gone ? i : i + 1][what]);
                }
            }
            Check.due("there is no last one: taskOf(7, 0)", x.taskOf(7, 0), Check.BEYOND);
        }
        SixFellows all = Roads.eight();
        for (int left = 7; left >= 0; left--) {
            Check.due("done(0)", all.done(0), 99);
            Check.due("left", all.count(1), left);
            Check.due("EARNED by those left", all.now(2), 99 * left);
        }
        Check.due("none is left", all.done(0), Check.BEYOND);
        Check.due("the first again", all.task(0, 0, 1, 0), 0);
    }

    private static void doneBeyond() {
        Document.promise(11, "BEYOND.");
        Twins.beyond(Roads::empty, "no task: done(?)", 0, -1, (x, v) -> x.done(v));
        Twins.beyond(Roads::some, "done(?)", 0, Roads.SOME_TASKS - 1, (x, v) -> x.done(v));
        Twins.beyond(Roads::full, "eight: done(?)", 0, 7, (x, v) -> x.done(v));
    }
}

/** Promises 8 to 11. */
final class TasksTest {
    public static void main(String[] args) {
        task();
        taskOf();
        helps();
        helpsBySpoiling();
        done();
        Check.end();
    }

    private static void task() {
        SixFellows x = new SixFellows();
        int[][] wrong = {{-1, 0, 1, 0}, {5, 0, 1, 0}, {0, -1, 1, 0}, {0, 31, 1, 0}, {0, 0, 0, 0}, {0, 0, 100, 0},
            {0, 0, 1, -1}, {0, 0, 1, 100}, {0, 0, Integer.MIN_VALUE, 0}};
        for (int[] w : wrong) {
            Check.due("a task beyond", x.task(w[0], w[1], w[2], w[3]), Check.BEYOND);
        }
        Check.due("none came", x.count(1), 0);
        for (int i = 0; i < 8; i++) {
            Check.due("task " + i, x.task(i % 5, i == 0 ? 30 : i, i == 1 ? 99 : i + 1, i == 2 ? 99 : i), i);
        }
        Check.due("a 9th", x.task(0, 0, 1, 0), Check.FULL);
        for (int[] w : wrong) {
            Check.due("BEYOND is asked ahead of FULL", x.task(w[0], w[1], w[2], w[3]), Check.BEYOND);
        }
        Check.due("still eight", x.count(1), 8);
        for (int i = 0; i < 8; i++) {
            Check.due("sort", x.taskOf(i, 0), i % 5);
            Check.due("mile", x.taskOf(i, 1), i == 0 ? 30 : i);
            Check.due("need", x.taskOf(i, 2), i == 1 ? 99 : i + 1);
            Check.due("pay", x.taskOf(i, 3), i == 2 ? 99 : i);
        }
        Check.due("FULL is counted", x.status(1), 1);
        Check.due("BEYOND is counted", x.status(0), 2 * wrong.length);
    }

    private static void taskOf() {
        // RUN at 10: the runner 15 - 5, the legged one 30 - 10, the fellow 1 - 0, the hunter 1 - 1.
        SixFellows x = Check.road("runner at 5; legged at 20; fellow at 10; hunter at 11");
        Check.due("task", x.task(0, 10, 31, 7), 0);
        Check.due("all help together", x.taskOf(0, 4), 31);
        Check.due("met by just enough", x.taskOf(0, 5), 1);
        Check.due("those who help by 1 or more", x.taskOf(0, 6), 0b0111);
        x.set(2, 4, 1);
        Check.due("less by one asleep", x.taskOf(0, 4), 30);
        Check.due("1 too few", x.taskOf(0, 5), 0);
        Check.due("one asleep helps none", x.taskOf(0, 6), 0b0011);
        Check.due("taskOf(0, -1)", x.taskOf(0, -1), Check.BEYOND);
        Check.due("taskOf(0, 7)", x.taskOf(0, 7), Check.BEYOND);
        Check.due("taskOf(-1, 0)", x.taskOf(-1, 0), Check.BEYOND);
        Check.due("taskOf(1, 0)", x.taskOf(1, 0), Check.BEYOND);
        Check.due("taskOf(8, 9)", x.taskOf(8, 9), Check.BEYOND);
        Check.due("all are counted", x.status(0), 5);
        SixFellows nobody = new SixFellows();
        nobody.task(4, 0, 1, 5);
        Check.due("nobody helps", nobody.taskOf(0, 4), 0);
        Check.due("met by nobody", nobody.taskOf(0, 5), 0);
        Check.due("nobody, as a set", nobody.taskOf(0, 6), 0);
    }

    private static void helps() {
        SixFellows x = Check.road("fellow at 3; hunter at 30; task carry at 5 need 1 pay 1; task shoot at 10 need 1 pay 1");
        Check.due("6 less 2 miles", x.helps(0, 0), 4);
        Check.due("1 less 7 miles, 0 at least", x.helps(0, 1), 0);
        Check.due("6 less 25 miles, 0 at least", x.helps(1, 0), 0);
        x.set(1, 3, 4);
        Check.due("24 less 20 miles", x.helps(1, 1), 4);
        x.set(1, 1, 0);
        Check.due("24 less 10 miles, the other way", x.helps(1, 1), 14);
        x.set(1, 4, 1);
        Check.due("0 if asleep", x.helps(1, 1), 0);
        Check.due("helps(-1, 0)", x.helps(-1, 0), Check.BEYOND);
        Check.due("helps(2, 0)", x.helps(2, 0), Check.BEYOND);
        Check.due("helps(0, -1)", x.helps(0, -1), Check.BEYOND);
        Check.due("helps(0, 2)", x.helps(0, 2), Check.BEYOND);
        Check.due("all are counted", x.status(0), 4);
    }

    private static void helpsBySpoiling() {
        // The half is cut first (15 becomes 7), the miles are taken off then.
        SixFellows x = Check.road("runner at 10; hatted at 12; task run at 7 need 4 pay 50; task freeze at 12 need 24 pay 1");
        Check.due("15 halved is 7, less 3", x.helps(0, 0), 4);
        Check.due("met by it", x.taskOf(0, 5), 1);
        Check.due("the hatted one is not spoilt", x.helps(1, 1), 24);
        x.task(0, 6, 4, 1);
        Check.due("7 less 4", x.helps(0, 2), 3);
        x.task(1, 10, 1, 1);
        Check.due("1 halved is 0", x.helps(0, 3), 0);
        x.task(4, 10, 1, 1);
        Check.due("all that it does is halved", x.helps(0, 4), 3);
        x.set(1, 1, 13);
        Check.due("3 miles away", x.helps(0, 0), 12);
        x.set(1, 1, 11);
        x.set(1, 4, 1);
        Check.due("the spoiler sleeps", x.helps(0, 0), 12);
    }

    private static void done() {
        SixFellows x = new SixFellows();
        for (int i = 0; i < 8; i++) {
            x.task(i % 5, i + 10, i + 20, i + 30);
        }
        Check.due("done(-1)", x.done(-1), Check.BEYOND);
        Check.due("done(8)", x.done(8), Check.BEYOND);
        Check.due("done(3)", x.done(3), 33);
        Check.due("seven are left", x.count(1), 7);
        for (int i = 0; i < 7; i++) {
            int was = i < 3 ? i : i + 1;
            Check.due("sort of those closed up", x.taskOf(i, 0), was % 5);
            Check.due("mile of those closed up", x.taskOf(i, 1), was + 10);
            Check.due("need of those closed up", x.taskOf(i, 2), was + 20);
            Check.due("pay of those closed up", x.taskOf(i, 3), was + 30);
        }
        Check.due("done(7)", x.done(7), Check.BEYOND);
        Check.due("the last", x.done(6), 37);
        Check.due("the first", x.done(0), 30);
        Check.due("five are left", x.count(1), 5);
        Check.due("behind again", x.task(0, 0, 1, 2), 5);
        Check.due("all are counted", x.status(-1), 3);
    }
}

/** Promises 39 to 43. */
final class ImagesTest {
    public static void main(String[] args) {
        imageAndUndo();
        imageOfNothing();
        tear();
        count();
        status();
        statusOfFindings();
        Check.end();
    }

    private static void imageAndUndo() {
        SixFellows x = Check.road("runner at 4 goes 9 skill 5 asleep; fellow at 2 goes 3; task run at 1 need 2 pay 3; task blow at 4 need 5 pay 6");
        x.hours(1);
        x.sheet(0, 8, 2);
        Check.feed(x, "ab");
        Check.due("image()", x.image(), 1);
        x.set(0, 1, 30);
        x.set(0, 2, 30);
        x.set(0, 3, 9);
        x.set(0, 4, 0);
        x.turn(0, 5);
        x.set(1, 4, 1);
        x.fellow(3, 3);
        x.done(0);
        x.task(4, 7, 8, 9);
        x.task(4, 7, 8, 9);
        x.hours(2);
        x.write(0, 1, 77);
        Check.feed(x, "c");
        x.of(9, 9);
        for (int again = 0; again < 2; again++) {
            Check.due("undo()", x.undo(), 2);
            int[][] fellows = {{1, 4, 9, 5, 1}, {0, 3, 3, 3, 0}};
            int[][] tasks = {{0, 1, 2, 3}, {2, 4, 5, 6}};
            for (int i = 0; i < 2; i++) {
                for (int what = 0; what < 5; what++) {
                    Check.due("fellow " + i + ": " + what, x.of(i, what), fellows[i][what]);
                }
                for (int what = 0; what < 4; what++) {
                    Check.due("task " + i + ": " + what, x.taskOf(i, what), tasks[i][what]);
                }
            }
            Check.due("tasks", x.count(1), 2);
            Check.due("HOUR", x.now(0), 1);
            Check.due("the tape is not taken back", x.count(2), 3);
            Check.due("sheets are not taken back", x.write(0, 1, 77), 77);
            Check.due("findings are not taken back", x.status(-1), 1);
            x.fellow(0, 0);
            x.set(1, 3, 8);
            x.done(1);
        }
        Check.due("a later image", x.image(), 1);
        x.fellow(0, 0);
        Check.due("the latest is what counts", x.undo(), 3);
        Check.due("with its skill", x.of(1, 3), 8);
    }

    private static void imageOfNothing() {
        SixFellows x = new SixFellows();
        Check.due("undo() without", x.undo(), Check.NONE);
        Check.due("image() of nobody", x.image(), 1);
        x.fellow(0, 0);
        Check.due("undo() to nobody", x.undo(), 0);
        Check.due("nobody", x.of(0, 0), Check.BEYOND);
        Check.due("comes anew", x.fellow(2, 7), 0);
        Check.due("awake", x.of(0, 4), 0);
        Check.due("NONE is counted", x.status(3), 1);
    }

    private static void tear() {
        SixFellows x = new SixFellows();
        Check.due("tear() of nothing", x.tear(), 0);
        x.image();
        x.image();
        x.fellow(0, 0);
        Check.due("tear()", x.tear(), 1);
        Check.due("what is there stays", x.count(0), 1);
        Check.due("tear() again", x.tear(), 0);
        Check.due("undo() of nothing", x.undo(), Check.NONE);
        Check.due("a finding changes nothing", x.count(0), 1);
        x.image();
        Check.due("an image again", x.undo(), 1);
    }

    private static void count() {
        SixFellows x = Check.road("runner at 4 skill 5; fellow at 2 asleep; hunter at 1 skill 9; task run at 1 need 2 pay 30; task blow at 4 need 5 pay 99");
        Check.feed(x, "four");
        int[] want = {3, 2, 4, 17, 129};
        for (int what = 0; what < want.length; what++) {
            Check.due("count(" + what + ")", x.count(what), want[what]);
        }
        x.done(0);
        Check.due("pay of those left", x.count(4), 99);
        Check.due("count(-1)", x.count(-1), Check.BEYOND);
        Check.due("count(5)", x.count(5), Check.BEYOND);
        Check.due("counted", x.status(0), 2);
    }

    private static void status() {
        SixFellows x = new SixFellows();
        x.image();
        for (int which = -1; which <= 6; which++) {
            Check.due("status(" + which + ") at first", x.status(which), 0);
        }
        Check.due("status(-2)", x.status(-2), Check.BEYOND);
        Check.due("status(7)", x.status(7), Check.BEYOND);
        Check.due("status(min)", x.status(Integer.MIN_VALUE), Check.BEYOND);
        Check.due("status(max)", x.status(Integer.MAX_VALUE), Check.BEYOND);
        Check.due("counted from then on", x.status(0), 4);
        Check.due("all", x.status(-1), 4);
        x.undo();
        Check.due("undo() takes none back", x.status(-1), 4);
    }

    private static void statusOfFindings() {
        SixFellows x = new SixFellows();
        for (int i = 0; i < 8; i++) {
            x.fellow(0, 0);
        }
        x.as(0, 5);
        x.as(0, 4);
        x.when(0);
        x.undo();
        x.undo();
        x.undo();
        for (int i = 0; i < 166; i++) {
            x.hours(60);
        }
        for (int i = 0; i < 4; i++) {
            x.hours(40);
        }
        for (int i = 0; i < 5; i++) {
            x.write(0, 0, 0);
        }
        for (int i = 0; i < 6; i++) {
            x.sheet(0, 8, -1);
        }
        int[] want = {1, 1, 2, 3, 4, 5, 6};
        for (int which = 0; which < want.length; which++) {
            Check.due("status(" + which + ")", x.status(which), want[which]);
        }
        Check.due("status(-1)", x.status(-1), 22);
    }
}

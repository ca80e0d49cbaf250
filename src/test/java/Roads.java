/** Objects to begin with: one with some of all, one that is full of all, and those at a late hour. */
final class Roads {
    static final int SOME_FELLOWS = 4;
    static final int SOME_TASKS = 3;
    static final int FULL_FELLOWS = 7;
    static final int FULL_TASKS = 8;
    static final int FULL_TAPE = 120;
    static final int LAST_HOUR = 9999;

    private Roads() {
    }

    static SixFellows empty() {
        return new SixFellows();
    }

    /**
     * Four fellows, three tasks, a text on the tape, sheets 0 to 2 of 8, 16 and 64 bits, sheet 3 missing, an image that
     * is unlike what there is in all that it keeps, and a few findings.
     */
    static SixFellows some() {
        SixFellows x = new SixFellows();
        x.fellow(1, 30);
        x.fellow(0, 2);
        x.fellow(2, 10);
        x.task(0, 28, 10, 7);
        x.task(1, 10, 9, 50);
        x.image();
        x.fellow(5, 11);
        x.task(4, 2, 7, 9);
        x.set(0, 2, 0);
        x.set(1, 3, 8);
        x.set(1, 4, 1);
        x.turn(0, 4);
        x.hours(3);
        x.sheet(0, 8, 3);
        x.sheet(1, 16, 4);
        x.sheet(2, 64, 2);
        x.write(0, 0, 5);
        x.write(0, 2, -1);
        x.write(1, 1, 300);
        x.write(1, 3, 30);
        x.write(2, 0, Long.MIN_VALUE);
        x.write(2, 1, 1);
        Check.feed(x, "sleep 2; runner at 7 goes 9 skill 4 asleep");
        x.of(SOME_FELLOWS, 0);
        x.as(0, 5);
        x.as(1, 2);
        x.write(3, 0, 0);
        return x;
    }

    /**
     * Seven fellows, eight tasks, a tape of 120 bytes, sheets 0 to 2 of 8, 16 and 64 bits with 40 numbers, sheet 3 of 16
     * bits with none, an image with a fellow and a task less.
     */
    static SixFellows full() {
        SixFellows x = new SixFellows();
        for (int i = 0; i < FULL_FELLOWS - 1; i++) {
            x.fellow(i, 5 * i);
        }
        for (int i = 0; i < FULL_TASKS - 1; i++) {
            x.task(i % 5, 4 * i, 3 * i + 1, 10 * i + 39);
        }
        x.image();
        x.fellow(3, 30);
        x.task(2, 30, 99, 99);
        x.set(0, 3, 9);
        x.set(3, 3, 1);
        x.set(2, 4, 1);
        x.set(6, 2, 0);
        x.turn(5, 2);
        x.sheet(0, 8, 40);
        x.sheet(1, 16, 40);
        x.sheet(2, 64, 40);
        x.sheet(3, 16, 0);
        for (int s = 0; s < 3; s++) {
            x.write(s, 0, s + 1);
            x.write(s, 39, -s);
        }
        Check.feed(x, "sleep 0; wake 2" + " ".repeat(FULL_TAPE - 24) + "; sleep 6");
        return x;
    }

    /** Nobody and no tasks at an hour. */
    static SixFellows atHour(int hour) {
        SixFellows x = new SixFellows();
        int left = hour;
        while (left > 0) {
            int n = Math.min(60, left);
            x.hours(n);
            left -= n;
        }
        return x;
    }

    /** The last hour, with two on their way and a task. */
    static SixFellows late() {
        SixFellows x = atHour(LAST_HOUR);
        x.fellow(4, 0);
        x.fellow(0, 30);
        x.set(0, 2, 30);
        x.set(1, 2, 0);
        x.task(4, 30, 2, 8);
        return x;
    }

    /** Seven alike at a mile, and no tasks. */
    static SixFellows seven(int kind, int mile) {
        SixFellows x = new SixFellows();
        for (int i = 0; i < FULL_FELLOWS; i++) {
            x.fellow(kind, mile);
        }
        return x;
    }

    /** One fellow at mile 0, and eight tasks there that it meets for 99 each. */
    static SixFellows eight() {
        SixFellows x = new SixFellows();
        x.fellow(0, 0);
        for (int i = 0; i < FULL_TASKS; i++) {
            x.task(4, 0, 6, 99);
        }
        return x;
    }
}

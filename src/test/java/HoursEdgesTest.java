/** Promises 12 to 16, sentence by sentence, at their bounds. */
final class HoursEdgesTest {
    public static void main(String[] args) {
        hoursGo();
        hoursBeyond();
        hoursState();
        nowHour();
        nowMet();
        nowEarned();
        nowAsleep();
        nowSpoilt();
        nowMiles();
        nowBeyond();
        onHours();
        onBeyond();
        whenMet();
        whenBeyond();
        whenNone();
        bestHours();
        Document.allPromisesAreNamed(12, 16);
        Check.end();
    }

    /** One goes from mile 0 to the end of the road, where a task is. */
    private static SixFellows long30() {
        SixFellows x = new SixFellows();
        x.fellow(0, 0);
        x.set(0, 2, 30);
        x.task(0, 30, 1, 99);
        x.task(0, 0, 1, 5);
        return x;
    }

    private static void hoursGo() {
        Document.promise(12, "n HOURS go (1 to 60): EARNED then.");
        SixFellows x = long30();
        Check.due("EARNED at first", x.now(2), 5);
        Check.due("hours(1): EARNED then, not before", x.hours(1), 0);
        Check.due("HOUR", x.now(0), 1);
        Check.due("hours(28)", x.hours(28), 0);
        Check.due("hours(1): there", x.hours(1), 99);
        Check.due("hours(60): no farther", x.hours(60), 99);
        Check.due("HOUR", x.now(0), 90);
        Check.due("hours(60) at once", long30().hours(60), 99);
        SixFellows byOne = Roads.full();
        for (int i = 0; i < 60; i++) {
            byOne.hours(1);
        }
        SixFellows atOnce = Roads.full();
        atOnce.hours(60);
        for (int i = 0; i < 7; i++) {
            Check.due("60 at once, or one by one: fellow " + i, atOnce.of(i, 1), byOne.of(i, 1));
            Check.due("those asleep stay, all others are at their goals: " + i, atOnce.of(i, 1), i == 2 ? 10 : atOnce.of(i, 2));
        }
        Check.due("hours(1) of nobody", new SixFellows().hours(1), 0);
        Check.due("hours(60) of nobody, for eight tasks", nobodyAtEight().hours(60), 0);
        Check.due("hours(60) for eight tasks", Roads.eight().hours(60), 792);
    }

    private static SixFellows nobodyAtEight() {
        SixFellows x = new SixFellows();
        for (int i = 0; i < 8; i++) {
            x.task(4, 0, 1, 99);
        }
        return x;
    }

    private static void hoursBeyond() {
        Document.promise(12, "BEYOND.");
        Twins.beyond(Roads::empty, "hours(?)", 1, 60, (x, v) -> x.hours(v));
        Twins.beyond(Roads::some, "hours(?)", 1, 60, (x, v) -> x.hours(v));
        Twins.beyond(Roads::full, "hours(?)", 1, 60, (x, v) -> x.hours(v));
        Twins.beyond(Roads::late, "hours(?), asked ahead of STATE", 1, 60, (x, v) -> x.hours(v));
    }

    private static void hoursState() {
        Document.promise(12, "STATE: HOUR would be above 9999.");
        Twins.refused(Check.STATE, Roads::late, "at 9999: hours(1)", x -> x.hours(1));
        Twins.refused(Check.STATE, Roads::late, "at 9999: hours(60)", x -> x.hours(60));
        Twins.refused(Check.STATE, () -> Roads.atHour(9940), "at 9940: hours(60)", x -> x.hours(60));
        Twins.refused(Check.STATE, () -> Roads.atHour(9998), "at 9998: hours(2)", x -> x.hours(2));
        int[][] justEnough = {{9998, 1}, {9939, 60}, {9940, 59}};
        for (int[] j : justEnough) {
            SixFellows x = Roads.atHour(j[0]);
            Check.due("at " + j[0] + ": hours(" + j[1] + ")", x.hours(j[1]), 0);
            Check.due("HOUR", x.now(0), 9999);
            Check.due("no findings", x.status(-1), 0);
        }
    }

    private static void nowHour() {
        Document.promise(13, "What 0 HOUR,");
        Twins.answered(0, Roads::empty, "now(0)", x -> x.now(0));
        Twins.answered(3, Roads::some, "now(0)", x -> x.now(0));
        Twins.answered(9999, Roads::late, "now(0)", x -> x.now(0));
    }

    private static void nowMet() {
        Document.promise(13, "1 TASKS that are MET, as a set,");
        Twins.answered(0, Roads::empty, "no task: now(1)", x -> x.now(1));
        Twins.answered(0, HoursEdgesTest::nobodyAtEight, "nobody: now(1)", x -> x.now(1));
        Twins.answered(255, Roads::eight, "eight: now(1)", x -> x.now(1));
        SixFellows x = Roads.eight();
        for (int i = 0; i < 7; i++) {
            x.done(0);
            x.task(4, 0, 7, 99);
        }
        Check.due("only what was the last, now the first: now(1)", x.now(1), 0b00000001);
        x.done(0);
        x.task(4, 0, 6, 99);
        Check.due("only the last: now(1)", x.now(1), 0b10000000);
    }

    private static void nowEarned() {
        Document.promise(13, "2 EARNED,");
        Twins.answered(0, Roads::empty, "now(2)", x -> x.now(2));
        Twins.answered(0, HoursEdgesTest::nobodyAtEight, "nobody: now(2)", x -> x.now(2));
        Twins.answered(792, Roads::eight, "eight: now(2)", x -> x.now(2));
        Twins.answered(0, () -> Check.road("fellow at 0; task carry at 0 need 6 pay 0"), "met for 0: now(2)", x -> x.now(2));
    }

    private static void nowAsleep() {
        Document.promise(13, "3 those ASLEEP, as a set,");
        Twins.answered(0, Roads::empty, "nobody: now(3)", x -> x.now(3));
        Twins.answered(0, () -> Roads.seven(0, 0), "seven awake: now(3)", x -> x.now(3));
        SixFellows x = Roads.seven(0, 0);
        int set = 0;
        for (int i = 6; i >= 0; i--) {
            x.set(i, 4, 1);
            set |= 1 << i;
            Check.due("asleep from " + i + " on: now(3)", x.now(3), set);
        }
        for (int i = 0; i < 7; i++) {
            x.set(i, 4, 0);
            set &= ~(1 << i);
            Check.due("awake up to " + i + ": now(3)", x.now(3), set);
        }
    }

    private static void nowSpoilt() {
        Document.promise(13, "4 those SPOILT, as a set,");
        Twins.answered(0, Roads::empty, "nobody: now(4)", x -> x.now(4));
        Twins.answered(0, () -> Roads.seven(2, 0), "seven hunters: now(4)", x -> x.now(4));
        SixFellows x = Roads.seven(2, 0);
        x.turn(0, 3);
        Check.due("six hunters by a blower: now(4)", x.now(4), 0b1111110);
        x.set(6, 4, 1);
        Check.due("one of them asleep: now(4)", x.now(4), 0b1111110);
        x.set(6, 1, 2);
        x.set(5, 1, 3);
        Check.due("one 2 miles away, one 3: now(4)", x.now(4), 0b1011110);
        x.set(0, 4, 1);
        Check.due("the blower asleep: now(4)", x.now(4), 0);
    }

    private static void nowMiles() {
        Document.promise(13, "5 MILES from the first to the last one (0 without).");
        Twins.answered(0, Roads::empty, "nobody: now(5)", x -> x.now(5));
        Twins.answered(0, () -> Check.road("fellow at 30"), "one: now(5)", x -> x.now(5));
        Twins.answered(0, () -> Roads.seven(0, 30), "seven at one mile: now(5)", x -> x.now(5));
        Twins.answered(30, Roads::full, "from 0 to 30: now(5)", x -> x.now(5));
        SixFellows x = Roads.seven(0, 15);
        x.set(6, 1, 30);
        Check.due("up to the last of seven: now(5)", x.now(5), 15);
        x.set(0, 1, 0);
        Check.due("from the first of seven: now(5)", x.now(5), 30);
        x.set(6, 4, 1);
        Check.due("those asleep, too: now(5)", x.now(5), 30);
        for (int i = 0; i < 7; i++) {
            SixFellows y = Roads.seven(0, 15);
            y.set(i, 1, 2);
            Check.due("from " + i + " on: now(5)", y.now(5), 13);
            y.set(i, 1, 29);
            Check.due("up to " + i + ": now(5)", y.now(5), 14);
        }
    }

    private static void nowBeyond() {
        Document.promise(13, "BEYOND.");
        Twins.beyond(Roads::empty, "now(?)", 0, 5, (x, v) -> x.now(v));
        Twins.beyond(Roads::some, "now(?)", 0, 5, (x, v) -> x.now(v));
        Twins.beyond(Roads::full, "now(?)", 0, 5, (x, v) -> x.now(v));
    }

    private static void onHours() {
        Document.promise(14, "TASKS that are MET ON n HOURS (0 to 60), as a set.");
        Twins.answered(0, Roads::empty, "on(0)", x -> x.on(0));
        Twins.answered(0, Roads::empty, "on(60)", x -> x.on(60));
        Twins.answered(0, HoursEdgesTest::nobodyAtEight, "nobody: on(60)", x -> x.on(60));
        Twins.answered(255, Roads::eight, "eight: on(60)", x -> x.on(60));
        Twins.answered(0b10, HoursEdgesTest::long30, "on(0)", x -> x.on(0));
        Twins.answered(0, HoursEdgesTest::long30, "on(1)", x -> x.on(1));
        Twins.answered(0, HoursEdgesTest::long30, "on(29)", x -> x.on(29));
        Twins.answered(0b01, HoursEdgesTest::long30, "on(30)", x -> x.on(30));
        Twins.answered(0b01, HoursEdgesTest::long30, "on(60)", x -> x.on(60));
        Twins.answered(0b1, Roads::late, "at 9999 they go on all the same: on(4)", x -> x.on(4));
        Twins.answered(0, Roads::late, "at 9999 they go on all the same: on(5)", x -> x.on(5));
    }

    private static void onBeyond() {
        Document.promise(14, "BEYOND.");
        Twins.beyond(Roads::empty, "on(?)", 0, 60, (x, v) -> x.on(v));
        Twins.beyond(Roads::some, "on(?)", 0, 60, (x, v) -> x.on(v));
        Twins.beyond(Roads::late, "on(?)", 0, 60, (x, v) -> x.on(v));
    }

    private static void whenMet() {
        Document.promise(15, "In how many HOURS (0 to 60) ON a TASK is MET first.");
        Twins.answered(30, HoursEdgesTest::long30, "the end of the road: when(0)", x -> x.when(0));
        Twins.answered(0, HoursEdgesTest::long30, "at once: when(1)", x -> x.when(1));
        Twins.answered(0, Roads::eight, "the last of eight: when(7)", x -> x.when(7));
        Twins.answered(0, Roads::late, "at 9999: when(0)", x -> x.when(0));
        SixFellows two = Check.road("fellow at 0 goes 30; runner at 0 goes 30; task carry at 27 need 6 pay 0; task carry at 27 need 9 pay 0");
        Check.due("first by the one that comes first: when(0)", two.when(0), 9);
        Check.due("by both: when(1)", two.when(1), 27);
    }

    private static void whenBeyond() {
        Document.promise(15, "BEYOND.");
        Twins.beyond(Roads::empty, "no task: when(?)", 0, -1, (x, v) -> x.when(v));
        Twins.beyond(Roads::some, "when(?)", 0, Roads.SOME_TASKS - 1, (x, v) -> x.when(v));
        Twins.beyond(Roads::full, "eight: when(?)", 0, 7, (x, v) -> x.when(v));
    }

    private static void whenNone() {
        Document.promise(15, "NONE.");
        Twins.refused(Check.NONE, HoursEdgesTest::nobodyAtEight, "nobody: when(7)", x -> x.when(7));
        Twins.refused(Check.NONE, Roads::full, "too much is needed: when(7)", x -> x.when(7));
        Twins.refused(Check.NONE, () -> Check.road("fellow at 1 goes 29; task run at 30 need 1 pay 9"), "a mile too far: when(0)",
            x -> x.when(0));
        Twins.refused(Check.NONE, () -> Check.road("fellow at 0 goes 30 asleep; task run at 30 need 1 pay 9"), "asleep: when(0)",
            x -> x.when(0));
    }

    private static void bestHours() {
        Document.promise(16, "The HOURS (0 to 60) ON which most is EARNED; of several the fewest.");
        Twins.answered(0, Roads::empty, "nobody, no task: best()", x -> x.best());
        Twins.answered(0, HoursEdgesTest::nobodyAtEight, "nobody: best()", x -> x.best());
        Twins.answered(0, () -> Roads.seven(0, 3), "no task: best()", x -> x.best());
        Twins.answered(0, Roads::eight, "always alike: best()", x -> x.best());
        Twins.answered(30, HoursEdgesTest::long30, "most at the end of the road: best()", x -> x.best());
        Twins.answered(0, () -> Check.road("fellow at 0 goes 30; task run at 30 need 1 pay 5; task run at 0 need 1 pay 5"),
            "of two the fewest: best()", x -> x.best());
        Twins.answered(15, () -> Check.road("fellow at 0 goes 30; task run at 30 need 1 pay 5; task run at 15 need 1 pay 5"),
            "of two the fewest, not 0: best()", x -> x.best());
        Twins.answered(0, () -> Check.road("fellow at 0 goes 30; task run at 30 need 1 pay 0"), "for 0: best()", x -> x.best());
    }
}

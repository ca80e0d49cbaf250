/** Promises 12 to 16. */
final class HoursTest {
    public static void main(String[] args) {
        hours();
        hoursToTheEnd();
        now();
        on();
        when();
        best();
        Check.end();
    }

    private static void hours() {
        SixFellows x = Check.road("fellow at 0 goes 5; runner at 30 goes 20; legged at 3 goes 30; hatted at 9 goes 2 asleep;"
            + " task carry at 4 need 6 pay 11; task freeze at 9 need 2 pay 5");
        Check.due("hours(0)", x.hours(0), Check.BEYOND);
        Check.due("hours(61)", x.hours(61), Check.BEYOND);
        Check.due("hours(-1)", x.hours(-1), Check.BEYOND);
        Check.due("hours(1)", x.hours(1), 0);
        int[] afterOne = {1, 27, 9, 9};
        int[] afterThree = {3, 21, 21, 9};
        int[] afterFour = {4, 20, 27, 9};
        int[] atLast = {5, 20, 30, 9};
        standAt(x, afterOne);
        Check.due("hours(2)", x.hours(2), 0);
        standAt(x, afterThree);
        Check.due("hours(1): the task is met", x.hours(1), 11);
        standAt(x, afterFour);
        Check.due("hours(60): passed by", x.hours(60), 0);
        standAt(x, atLast);
        Check.due("HOUR", x.now(0), 64);
        Check.due("goals stay", x.of(3, 2), 2);
        Check.due("all are counted", x.status(-1), 3);
    }

    private static void standAt(SixFellows x, int[] miles) {
        for (int i = 0; i < miles.length; i++) {
            Check.due("fellow " + i + " stands at", x.of(i, 1), miles[i]);
        }
    }

    private static void hoursToTheEnd() {
        SixFellows x = new SixFellows();
        for (int i = 0; i < 166; i++) {
            Check.due("hours(60)", x.hours(60), 0);
        }
        Check.due("HOUR", x.now(0), 9960);
        x.fellow(0, 0);
        x.set(0, 2, 30);
        Check.due("hours(40) too many", x.hours(40), Check.STATE);
        Check.due("BEYOND is asked ahead of STATE", x.hours(61), Check.BEYOND);
        Check.due("nothing went", x.now(0) * 100 + x.of(0, 1), 996000);
        Check.due("hours(38)", x.hours(38), 0);
        Check.due("on goes beyond the last HOUR", x.on(60), 0);
        Check.due("best does", x.best(), 0);
        Check.due("hours(1)", x.hours(1), 0);
        Check.due("the last HOUR", x.now(0), 9999);
        Check.due("hours(1) too many", x.hours(1), Check.STATE);
        Check.due("STATE is counted", x.status(4), 2);
        Check.due("BEYOND is counted", x.status(0), 1);
    }

    private static void now() {
        SixFellows x = Check.road("hunter at 20; blower at 18; fellow at 4 asleep; runner at 29 asleep; hatted at 30;"
            + " task blow at 18 need 21 pay 40; task shoot at 20 need 10 pay 9; task freeze at 25 need 2 pay 3; task carry at 4 need 1 pay 2");
        Check.due("HOUR", x.now(0), 0);
        Check.due("tasks met", x.now(1), 0b0101);
        Check.due("EARNED", x.now(2), 43);
        Check.due("asleep", x.now(3), 0b01100);
        Check.due("spoilt, asleep or not", x.now(4), 0b01001);
        Check.due("miles from first to last", x.now(5), 26);
        Check.due("now(-1)", x.now(-1), Check.BEYOND);
        Check.due("now(6)", x.now(6), Check.BEYOND);
        SixFellows one = new SixFellows();
        one.fellow(0, 17);
        Check.due("no miles by one", one.now(5), 0);
        SixFellows crossed = Check.road("fellow at 12; fellow at 30; fellow at 1; fellow at 13");
        Check.due("miles whatever the order", crossed.now(5), 29);
        Check.due("counted", x.status(0), 2);
    }

    private static SixFellows passing() {
        // A carrier goes by two tasks, at 5 and at 9; each is met while it is 2 miles or less away.
        return Check.road("fellow at 0 goes 20; task carry at 5 need 4 pay 10; task carry at 9 need 4 pay 10; task run at 0 need 1 pay 0");
    }

    private static void on() {
        SixFellows x = passing();
        Check.due("on(0)", x.on(0), 0b100);
        for (int n = 1; n <= 60; n++) {
            int want = (Math.abs(Math.min(n, 20) - 5) <= 2 ? 0b001 : 0) | (Math.abs(Math.min(n, 20) - 9) <= 2 ? 0b010 : 0);
            Check.due("on(" + n + ")", x.on(n), want);
        }
        Check.due("nothing changes", x.of(0, 1) + x.now(0), 0);
        x.set(0, 4, 1);
        Check.due("one asleep does not go", x.on(5), 0);
        Check.due("on(-1)", x.on(-1), Check.BEYOND);
        Check.due("on(61)", x.on(61), Check.BEYOND);
        Check.due("counted", x.status(0), 2);
    }

    private static void when() {
        SixFellows x = passing();
        Check.due("when(0)", x.when(0), 3);
        Check.due("when(1)", x.when(1), 7);
        Check.due("when(2): now", x.when(2), 0);
        x.task(1, 20, 1, 0);
        Check.due("when(3): at its goal", x.when(3), 20);
        x.task(1, 21, 1, 0);
        Check.due("when(4): never", x.when(4), Check.NONE);
        Check.due("when(-1)", x.when(-1), Check.BEYOND);
        Check.due("when(5)", x.when(5), Check.BEYOND);
        Check.due("nothing changes", x.of(0, 1) + x.now(0), 0);
        Check.due("NONE is counted", x.status(3), 1);
        Check.due("BEYOND is counted", x.status(0), 2);
    }

    private static void best() {
        SixFellows x = passing();
        Check.due("both are met first at 7", x.best(), 7);
        Check.due("nothing changes", x.of(0, 1) + x.now(0), 0);
        x.done(1);
        Check.due("of several the fewest", x.best(), 3);
        x.done(0);
        Check.due("nothing is earned at all", x.best(), 0);
        SixFellows slow = Check.road("fellow at 0 goes 30; task run at 30 need 1 pay 1");
        Check.due("at the end of the road", slow.best(), 30);
        SixFellows first = Check.road("fellow at 0 goes 30; task run at 0 need 1 pay 1");
        Check.due("at once", first.best(), 0);
        Check.due("no findings", x.status(-1) + slow.status(-1), 0);
    }
}

/** Promises 26 to 29, sentence by sentence, at their bounds. */
final class WagesEdgesTest {
    public static void main(String[] args) {
        missedByHowMuch();
        missedBelow();
        missedAsleep();
        missedBeyond();
        shareOfAllOrders();
        shareTimes5040();
        shareBeyond();
        firstOfAll();
        firstOfSeveral();
        firstNone();
        setsThatEarn();
        setsBeyond();
        Document.allPromisesAreNamed(26, 29);
        Check.end();
    }

    /** Six hatted ones, asleep but for the first, around a runner, the last, for whom there are eight tasks. */
    private static SixFellows spoiltRunner() {
        SixFellows x = Roads.seven(5, 0);
        x.turn(6, 1);
        for (int i = 1; i < 6; i++) {
            x.set(i, 4, 1);
        }
        for (int i = 0; i < 8; i++) {
            x.task(0, 0, 9, 99);
        }
        return x;
    }

    private static void missedByHowMuch() {
        Document.promise(26, "By how much EARNED is less, if one is ASLEEP");
        Twins.answered(792, Roads::eight, "missed(0)", x -> x.missed(0));
        Twins.answered(0, () -> Roads.seven(0, 0), "no task: missed(6)", x -> x.missed(6));
        SixFellows seven = Roads.seven(0, 0);
        seven.task(4, 0, 42, 7);
        for (int i = 0; i < 7; i++) {
            Check.due("each of seven: missed(" + i + ")", seven.missed(i), 7);
        }
        seven.task(4, 0, 36, 9);
        Check.due("six do for the other: missed(6)", seven.missed(6), 7);
    }

    private static void missedBelow() {
        Document.promise(26, "(may be below 0;");
        Twins.answered(-792, WagesEdgesTest::spoiltRunner, "a spoiler of all: missed(0)", x -> x.missed(0));
        Twins.answered(-1, () -> Check.road("hunter at 3; blower at 5; task shoot at 3 need 18 pay 2; task blow at 5 need 21 pay 1"),
            "spoils 2, brings 1: missed(1)", x -> x.missed(1));
        Twins.answered(0, () -> Check.road("hunter at 3; blower at 5; task shoot at 3 need 18 pay 1; task blow at 5 need 21 pay 1"),
            "spoils 1, brings 1: missed(1)", x -> x.missed(1));
    }

    private static void missedAsleep() {
        Document.promise(26, "0, if it is).");
        Twins.answered(0, WagesEdgesTest::spoiltRunner, "asleep: missed(1)", x -> x.missed(1));
        Twins.answered(0, () -> Check.road("fellow at 0 asleep; task carry at 0 need 6 pay 99"), "asleep: missed(0)", x -> x.missed(0));
    }

    private static void missedBeyond() {
        Document.promise(26, "BEYOND.");
        Twins.beyond(Roads::empty, "nobody: missed(?)", 0, -1, (x, v) -> x.missed(v));
        Twins.beyond(Roads::some, "missed(?)", 0, Roads.SOME_FELLOWS - 1, (x, v) -> x.missed(v));
        Twins.beyond(Roads::full, "seven: missed(?)", 0, 6, (x, v) -> x.missed(v));
    }

    private static final String[] BAND = {"hunter at 10 skill 4", "blower at 12", "fellow at 9 skill 7", "runner at 14", "hatted at 13",
        "legged at 11 skill 2 asleep", "blower at 20"};
    private static final String TASKS = "task shoot at 10 need 20 pay 50; task blow at 13 need 22 pay 41; task run at 14 need 16 pay 33;"
        + " task carry at 11 need 30 pay 27; task freeze at 13 need 24 pay 13; task blow at 20 need 21 pay 5; task carry at 9 need 14 pay 3;"
        + " task run at 11 need 3 pay 1";

    private static SixFellows band(int count) {
        StringBuilder text = new StringBuilder();
        for (int i = 0; i < count; i++) {
            text.append(BAND[i]).append("; ");
        }
        return Check.road(text + TASKS);
    }

    private static void shareOfAllOrders() {
        Document.promise(27, "A SHARE: in all orders in which all FELLOWS could come one behind the other, what is EARNED by those who have come"
            + " (ALONE) with this one less what it is without it, as it comes, together;");
        long[] orders = {1, 1, 2, 6, 24, 120, 720, 5040};
        for (int count = 1; count <= 7; count++) {
            int[] earned = new int[1 << count];
            for (int set = 0; set < earned.length; set++) {
                earned[set] = earnedAlone(band(count), count, set);
            }
            long[] sums = new long[count];
            Check.due("orders of " + count, come(0, earned, sums), orders[count]);
            SixFellows x = band(count);
            for (int i = 0; i < count; i++) {
                Check.due("of " + count + ": share(" + i + ")", x.share(i), sums[i] * 5040 / orders[count]);
                Check.due("no rest is left", sums[i] * 5040 % orders[count], 0);
            }
        }
    }

    private static int earnedAlone(SixFellows x, int count, int set) {
        for (int i = 0; i < count; i++) {
            if ((set >> i & 1) == 0) {
                x.set(i, 4, 1);
            }
        }
        return x.now(2);
    }

    /** One order after the other: each that comes adds what it brings; the number of orders that go on from here. */
    private static long come(int there, int[] earned, long[] sums) {
        long orders = 0;
        for (int i = 0; i < sums.length; i++) {
            int with = there | 1 << i;
            if (with != there) {
                long behind = come(with, earned, sums);
                sums[i] += behind * (earned[with] - earned[there]);
                orders += behind;
            }
        }
        return orders == 0 ? 1 : orders;
    }

    private static void shareTimes5040() {
        Document.promise(27, "times 5040, by how many orders there are (no rest is left).");
        Twins.answered(792L * 5040, Roads::eight, "one, in one order: share(0)", x -> x.share(0));
        Twins.answered(0, () -> Check.road("fellow at 0"), "no task: share(0)", x -> x.share(0));
        Twins.answered(0, () -> Check.road("fellow at 0 asleep; task carry at 0 need 6 pay 99"), "asleep: share(0)", x -> x.share(0));
        SixFellows seven = Roads.seven(0, 0);
        seven.task(4, 0, 42, 1);
        Check.due("1 for the last of seven to come: share(6)", seven.share(6), 720);
        seven.task(4, 0, 1, 1);
        Check.due("and 1 for the first: share(6)", seven.share(6), 1440);
        Twins.answered(-2520, () -> Check.road("blower at 0; hunter at 0; task shoot at 0 need 18 pay 1"), "below 0: share(0)", x -> x.share(0));
        Twins.answered(2520, () -> Check.road("blower at 0; hunter at 0; task shoot at 0 need 18 pay 1"), "above 0: share(1)", x -> x.share(1));
        Twins.answered(-792L * 2520, WagesEdgesTest::spoiltRunner, "the least: share(0)", x -> x.share(0));
        Twins.answered(0, WagesEdgesTest::spoiltRunner, "asleep among seven: share(5)", x -> x.share(5));
    }

    private static void shareBeyond() {
        Document.promise(27, "BEYOND.");
        Twins.beyond(Roads::empty, "nobody: share(?)", 0, -1, (x, v) -> x.share(v));
        Twins.beyond(Roads::some, "share(?)", 0, Roads.SOME_FELLOWS - 1, (x, v) -> x.share(v));
        Twins.beyond(Roads::full, "seven: share(?)", 0, 6, (x, v) -> x.share(v));
    }

    private static void firstOfAll() {
        Document.promise(28, "The one with the greatest SHARE;");
        Twins.answered(6, WagesEdgesTest::spoiltRunner, "the last of seven: first()", x -> x.first());
        Twins.answered(0, Roads::eight, "the only one: first()", x -> x.first());
        Twins.answered(1, () -> Check.road("blower at 0; fellow at 9; blower at 0; hunter at 0 asleep; hunter at 1; task carry at 9 need 6 pay 9;"
            + " task shoot at 1 need 18 pay 9"), "not the spoilt one: first()", x -> x.first());
    }

    private static void firstOfSeveral() {
        Document.promise(28, "of several the least.");
        Twins.answered(0, () -> Roads.seven(0, 0), "no task: first()", x -> x.first());
        Twins.answered(0, () -> Check.road("fellow at 0 asleep; fellow at 1 asleep; task carry at 0 need 1 pay 9"), "all asleep: first()",
            x -> x.first());
        Twins.answered(1, () -> Check.road("fellow at 0 asleep; fellow at 0; fellow at 0; task carry at 0 need 1 pay 9"), "two alike: first()",
            x -> x.first());
        Twins.answered(1, () -> Check.road("blower at 0; fellow at 30; hunter at 0; task shoot at 0 need 18 pay 2; task run at 30 need 1 pay 1"),
            "1, or 2 in half of the orders: first()", x -> x.first());
    }

    private static void firstNone() {
        Document.promise(28, "NONE: there is nobody.");
        Twins.refused(Check.NONE, Roads::empty, "first()", x -> x.first());
        SixFellows x = new SixFellows();
        x.task(4, 0, 1, 99);
        Check.due("nobody, a task: first()", x.first(), Check.NONE);
    }

    private static void setsThatEarn() {
        Document.promise(29, "How many sets of FELLOWS EARN (ALONE) v (0 to 999) or more.");
        Twins.answered(1, Roads::empty, "nobody: sets(0)", x -> x.sets(0));
        Twins.answered(0, Roads::empty, "nobody: sets(1)", x -> x.sets(1));
        Twins.answered(0, Roads::empty, "nobody: sets(999)", x -> x.sets(999));
        Twins.answered(128, () -> Roads.seven(0, 0), "seven: sets(0)", x -> x.sets(0));
        Twins.answered(0, () -> Roads.seven(0, 0), "seven: sets(1)", x -> x.sets(1));
        Twins.answered(1, Roads::eight, "sets(792)", x -> x.sets(792));
        Twins.answered(0, Roads::eight, "sets(793)", x -> x.sets(793));
        Twins.answered(0, Roads::eight, "sets(999)", x -> x.sets(999));
        Twins.answered(2, Roads::eight, "sets(0)", x -> x.sets(0));
        SixFellows x = Roads.seven(0, 0);
        x.task(4, 0, 24, 50);
        Check.due("four or more of seven: sets(50)", x.sets(50), 64);
        Check.due("none for more: sets(51)", x.sets(51), 0);
        x.set(6, 4, 1);
        Check.due("those of the set as they are, four or more of six: sets(50)", x.sets(50), 2 * 22);
        Twins.answered(32, WagesEdgesTest::spoiltRunner, "the runner without its spoiler, and any of five asleep: sets(792)",
            y -> y.sets(792));
    }

    private static void setsBeyond() {
        Document.promise(29, "BEYOND.");
        Twins.beyond(Roads::empty, "sets(?)", 0, 999, (x, v) -> x.sets(v));
        Twins.beyond(Roads::some, "sets(?)", 0, 999, (x, v) -> x.sets(v));
        Twins.beyond(Roads::full, "sets(?)", 0, 999, (x, v) -> x.sets(v));
    }
}

/** Promises 26 to 29. */
final class WagesTest {
    public static void main(String[] args) {
        missed();
        share();
        shareOfSleepers();
        first();
        sets();
        Check.end();
    }

    private static SixFellows band() {
        return Check.road("hunter at 10; blower at 10; fellow at 10; task shoot at 10 need 18 pay 50; task blow at 10 need 21 pay 40;"
            + " task carry at 10 need 12 pay 5");
    }

    private static void missed() {
        SixFellows x = band();
        Check.due("EARNED", x.now(2), 45);
        Check.due("the hunter is not missed", x.missed(0), 0);
        Check.due("without the blower 10 more", x.missed(1), -10);
        Check.due("the fellow is missed for carrying", x.missed(2), 5);
        x.set(1, 4, 1);
        Check.due("the hunter is missed", x.missed(0), 55);
        Check.due("0 if asleep", x.missed(1), 0);
        Check.due("the fellow is missed", x.missed(2), 5);
        Check.due("nothing changes", x.now(3), 0b010);
        Check.due("missed(-1)", x.missed(-1), Check.BEYOND);
        Check.due("missed(3)", x.missed(3), Check.BEYOND);
        Check.due("counted", x.status(0), 2);
    }

    private static void share() {
        // By set: H 50, B 40, F 0, HB 40 (a spoilt hunter carries 3), HF 55, BF 45, HBF 45.
        // H: 50 + 50 (first), 0 (behind B), 55 (behind F), 0 + 0 (last): 155 in 6 orders.
        // B: 40 + 40, -10 (behind H), 45 (behind F), -10 - 10: 95. F: 0 + 0, 5, 5, 5 + 5: 20.
        SixFellows x = band();
        Check.due("share(0)", x.share(0), 155L * 840);
        Check.due("share(1)", x.share(1), 95L * 840);
        Check.due("share(2)", x.share(2), 20L * 840);
        Check.due("together what all earn", x.share(0) + x.share(1) + x.share(2), 45L * 5040);
        Check.due("share(-1)", x.share(-1), Check.BEYOND);
        Check.due("share(3)", x.share(3), Check.BEYOND);
        Check.due("counted", x.status(0), 2);
        SixFellows seven = new SixFellows();
        for (int i = 0; i < 7; i++) {
            seven.fellow(0, 0);
            seven.task(4, 0, 6 * (i + 1), 99);
            Check.due("alike: " + (i + 1), seven.share(0), 99L * 5040);
            Check.due("alike: the last", seven.share(i), 99L * 5040);
        }
    }

    private static void shareOfSleepers() {
        SixFellows x = band();
        x.set(1, 4, 1);
        // By set, B asleep: H 50, F 0, HF 55.
        Check.due("share(0), one asleep", x.share(0), (50L * 3 + 55 * 3) * 840);
        Check.due("share(1), asleep", x.share(1), 0);
        Check.due("share(2), one asleep", x.share(2), 5L * 3 * 840);
    }

    private static void first() {
        SixFellows nobody = new SixFellows();
        Check.due("first() of nobody", nobody.first(), Check.NONE);
        Check.due("NONE is counted", nobody.status(3), 1);
        SixFellows x = band();
        Check.due("the hunter", x.first(), 0);
        x.set(0, 4, 1);
        Check.due("the blower", x.first(), 1);
        x.set(1, 4, 1);
        Check.due("all alike: the least", x.first(), 0);
        SixFellows below = Check.road("blower at 10; blower at 10; hunter at 10; task shoot at 10 need 18 pay 6");
        Check.due("shares may be below 0", below.share(0), -6L * 1 * 840);
        Check.due("the last one is first", below.first(), 2);
        SixFellows one = Check.road("hatted at 10");
        Check.due("the only one", one.first(), 0);
    }

    private static void sets() {
        SixFellows x = band();
        // 0 (nobody), 50, 40, 0, 40, 55, 45, 45.
        int[][] due = {{0, 8}, {1, 6}, {40, 6}, {41, 4}, {45, 4}, {46, 2}, {50, 2}, {51, 1}, {55, 1}, {56, 0}, {999, 0}};
        for (int[] d : due) {
            Check.due("sets(" + d[0] + ")", x.sets(d[0]), d[1]);
        }
        Check.due("sets(-1)", x.sets(-1), Check.BEYOND);
        Check.due("sets(1000)", x.sets(1000), Check.BEYOND);
        x.set(0, 4, 1);
        Check.due("one asleep stays so: 0, 0, 40, 0, 40, 0, 45, 45", x.sets(40), 4);
        Check.due("counted", x.status(0), 2);
        Check.due("the set of nobody", new SixFellows().sets(0), 1);
    }
}

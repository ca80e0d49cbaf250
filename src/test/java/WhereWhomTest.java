/** Promises 17 to 25. */
final class WhereWhomTest {
    public static void main(String[] args) {
        stand();
        kind();
        awakeAndMost();
        awakeOfSeveral();
        fewestAndWho();
        spoils();
        learn();
        skill();
        Check.end();
    }

    private static void stand() {
        // The carrier (6) meets the first from 8 to 12, the second from 13 to 17, none of them both.
        SixFellows x = Check.road("fellow at 0; task carry at 10 need 4 pay 7; task carry at 15 need 4 pay 7");
        Check.due("of several the least", x.stand(0), 8);
        x.task(4, 16, 4, 1);
        Check.due("where two are met", x.stand(0), 14);
        Check.due("nothing changes", x.of(0, 1), 0);
        x.set(0, 4, 1);
        Check.due("one asleep: all are alike", x.stand(0), 0);
        SixFellows end = Check.road("fellow at 3; task run at 30 need 1 pay 1");
        Check.due("the last mile", end.stand(0), 30);
        SixFellows spoiler = Check.road("hunter at 0; blower at 0; task shoot at 0 need 18 pay 9");
        Check.due("out of the other's way", spoiler.stand(1), 3);
        Check.due("the hunter is best where it helps", spoiler.stand(0), 0);
        Check.due("stand(-1)", spoiler.stand(-1), Check.BEYOND);
        Check.due("stand(2)", spoiler.stand(2), Check.BEYOND);
        Check.due("counted", spoiler.status(0), 2);
    }

    private static void kind() {
        String[] tasks = {"task carry at 0 need 6 pay 9", "task run at 0 need 15 pay 9", "task shoot at 0 need 18 pay 9",
            "task blow at 0 need 21 pay 9", "task run at 0 need 16 pay 9", "task freeze at 0 need 9 pay 9"};
        for (int kind = 0; kind < 6; kind++) {
            SixFellows x = Check.road("hunter at 0; " + tasks[kind]);
            Check.due("the kind for " + tasks[kind], x.kind(0), kind);
            Check.due("nothing changes", x.of(0, 0), 2);
            x.set(0, 4, 1);
            Check.due("one asleep: all are alike", x.kind(0), 0);
            Check.due("kind(-1)", x.kind(-1), Check.BEYOND);
            Check.due("kind(1)", x.kind(1), Check.BEYOND);
            Check.due("counted", x.status(0), 2);
        }
        SixFellows spoilt = Check.road("hunter at 0; blower at 0; task shoot at 0 need 10 pay 9; task carry at 30 need 1 pay 1");
        Check.due("any that spoils none: the least", spoilt.kind(1), 0);
    }

    private static void awakeAndMost() {
        SixFellows none = new SixFellows();
        Check.due("awake() of nobody", none.awake(), 0);
        Check.due("most() of nobody", none.most(), 0);
        SixFellows x = Check.road("hunter at 10; blower at 10; fellow at 10; task shoot at 10 need 10 pay 50; task blow at 10 need 21 pay 40;"
            + " task carry at 10 need 12 pay 5");
        // Hunter and fellow: 50 + 5. Blower and fellow: 40 + 5. All: shooting 9 + 1 + 1 is enough, too.
        Check.due("all of them", x.awake(), 0b111);
        Check.due("all earn", x.most(), 95);
        x.done(0);
        x.task(1, 10, 18, 50);
        Check.due("the blower should sleep", x.awake(), 0b101);
        Check.due("it earns", x.most(), 55);
        x.set(0, 4, 1);
        Check.due("only those who are awake", x.awake(), 0b110);
        Check.due("they earn", x.most(), 45);
        Check.due("nothing changes", x.now(3), 0b001);
        x.set(1, 4, 1);
        Check.due("the rest earn nothing", x.awake(), 0);
        Check.due("nothing", x.most(), 0);
        Check.due("no findings", x.status(-1), 0);
    }

    private static void awakeOfSeveral() {
        SixFellows x = Check.road("fellow at 3; fellow at 3; legged at 3 skill 9; task carry at 3 need 6 pay 1; task run at 3 need 1 pay 0");
        Check.due("one is enough, the least of them", x.awake(), 0b001);
        x.set(0, 3, 2);
        Check.due("the second alone, not the first with another", x.awake(), 0b010);
        x.task(0, 3, 50, 1);
        x.set(0, 3, 5);
        Check.due("two of them, the least", x.awake(), 0b101);
        Check.due("they earn", x.most(), 2);
        SixFellows larger = Check.road("fellow at 3 skill 1; fellow at 3 skill 1; fellow at 3; task carry at 3 need 4 pay 1");
        Check.due("fewer goes ahead of lesser", larger.awake(), 0b100);
    }

    private static void fewestAndWho() {
        SixFellows x = Check.road("fellow at 3 skill 1; fellow at 3 skill 1; fellow at 3; fellow at 3; task carry at 3 need 2 pay 1;"
            + " task carry at 3 need 4 pay 1; task carry at 3 need 12 pay 1; task carry at 3 need 16 pay 1; task carry at 3 need 17 pay 0");
        int[] fewest = {1, 1, 2, 4, Check.NONE};
        int[] who = {0b0001, 0b0100, 0b1100, 0b1111, Check.NONE};
        for (int task = 0; task < 5; task++) {
            Check.due("fewest(" + task + ")", x.fewest(task), fewest[task]);
            Check.due("who(" + task + ")", x.who(task), who[task]);
        }
        x.set(2, 4, 1);
        int[] fewestLeft = {1, 1, Check.NONE, Check.NONE, Check.NONE};
        int[] whoLeft = {0b0001, 0b1000, Check.NONE, Check.NONE, Check.NONE};
        for (int task = 0; task < 5; task++) {
            Check.due("of those awake, fewest(" + task + ")", x.fewest(task), fewestLeft[task]);
            Check.due("of those awake, who(" + task + ")", x.who(task), whoLeft[task]);
        }
        Check.due("fewest(-1)", x.fewest(-1), Check.BEYOND);
        Check.due("fewest(5)", x.fewest(5), Check.BEYOND);
        Check.due("who(-1)", x.who(-1), Check.BEYOND);
        Check.due("who(5)", x.who(5), Check.BEYOND);
        Check.due("BEYOND is counted", x.status(0), 4);
        Check.due("NONE is counted", x.status(3), 8);
        SixFellows spoilt = Check.road("hunter at 0; blower at 0; fellow at 0; task shoot at 0 need 11 pay 1; task shoot at 0 need 20 pay 1");
        Check.due("met by one, though not spoilt", spoilt.fewest(0), 1);
        Check.due("alone, without the spoiler", spoilt.who(0), 1);
        Check.due("18 + 1, or 9 + 1 + 1", spoilt.fewest(1), Check.NONE);
    }

    private static void spoils() {
        SixFellows x = Check.road("hunter at 10; blower at 11; hatted at 12; runner at 14; task shoot at 10 need 18 pay 9; task run at 14 need 15 pay 5;"
            + " task blow at 11 need 20 pay 6");
        Check.due("only the hatted one: by it the runner is spoilt", x.spoils(), 0b0100);
        x.set(2, 4, 1);
        Check.due("then the blower costs more than it brings", x.spoils(), 0b0010);
        x.done(2);
        x.task(2, 11, 20, 9);
        Check.due("as much is not more", x.spoils(), 0);
        x.set(1, 4, 1);
        Check.due("those asleep spoil nothing", x.spoils(), 0);
        Check.due("nothing changes", x.now(3), 0b0110);
        SixFellows two = Check.road("hatted at 12; hatted at 12; runner at 12; task run at 12 need 15 pay 9");
        Check.due("each of two by itself lets no more be earned", two.spoils(), 0);
        SixFellows each = Check.road("runner at 10; hunter at 14; hatted at 12; task run at 10 need 15 pay 9; task freeze at 12 need 24 pay 5");
        Check.due("the spoiler", each.spoils(), 0b100);
        SixFellows both = Check.road("blower at 2; hunter at 0; runner at 30; hatted at 28; task shoot at 0 need 18 pay 9; task run at 30 need 15 pay 9");
        Check.due("two spoilers, the first of all among them", both.spoils(), 0b1001);
        Check.due("no findings", x.status(-1), 0);
    }

    private static void learn() {
        SixFellows x = Check.road("fellow at 5; hunter at 5; runner at 5; task carry at 5 need 20 pay 3; task shoot at 5 need 26 pay 8;"
            + " task run at 5 need 22 pay 8");
        Check.due("of several the least, of those with most", x.learn(), 1);
        x.set(1, 4, 1);
        Check.due("one asleep lets no more be earned", x.learn(), Check.NONE);
        x.set(1, 4, 0);
        x.set(1, 3, 9);
        x.set(2, 3, 9);
        Check.due("none lets more be earned", x.learn(), Check.NONE);
        x.set(1, 3, 8);
        Check.due("skills stay", x.of(1, 3), 8);
        x.done(1);
        x.task(1, 5, 56, 1);
        Check.due("8 becomes 9", x.learn(), 1);
        x.set(1, 3, 9);
        x.task(1, 5, 57, 1);
        Check.due("9 at most", x.learn(), Check.NONE);
        Check.due("NONE is counted", x.status(3), 3);
        SixFellows alike = Check.road("fellow at 5; fellow at 5; task carry at 5 need 14 pay 3");
        Check.due("of several the least: the first of all", alike.learn(), 0);
        SixFellows seven = new SixFellows();
        for (int i = 0; i < 7; i++) {
            seven.fellow(0, i == 6 ? 24 : 0);
        }
        seven.task(4, 24, 8, 1);
        Check.due("the last of seven", seven.learn(), 6);
        Check.due("nobody learns", new SixFellows().learn(), Check.NONE);
    }

    private static void skill() {
        SixFellows x = Check.road("hunter at 5; fellow at 5; task shoot at 8 need 10 pay 0; task carry at 5 need 24 pay 0; task carry at 5 need 25 pay 0;"
            + " task run at 5 need 2 pay 0; task carry at 5 need 8 pay 0");
        Check.due("6 times 3 less 3", x.skill(0, 0), 3);
        Check.due("another helps too little", x.skill(1, 0), 1);
        Check.due("2 times 9 and 6", x.skill(0, 1), 9);
        Check.due("none is enough", x.skill(0, 2), Check.NONE);
        Check.due("the least is enough", x.skill(0, 3), 1);
        Check.due("2 times 1 and 6", x.skill(0, 4), 1);
        Check.due("skill stays", x.of(0, 3), 3);
        x.set(0, 4, 1);
        Check.due("asleep, none is enough", x.skill(0, 0), Check.NONE);
        x.task(4, 5, 6, 0);
        Check.due("asleep, but met by the other", x.skill(0, 5), 1);
        Check.due("skill(-1, 0)", x.skill(-1, 0), Check.BEYOND);
        Check.due("skill(2, 0)", x.skill(2, 0), Check.BEYOND);
        Check.due("skill(0, -1)", x.skill(0, -1), Check.BEYOND);
        Check.due("skill(0, 6)", x.skill(0, 6), Check.BEYOND);
        Check.due("BEYOND is counted", x.status(0), 4);
        Check.due("NONE is counted", x.status(3), 2);
    }
}

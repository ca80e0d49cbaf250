/** Promises 17 to 25, sentence by sentence, at their bounds. */
final class WhereWhomEdgesTest {
    public static void main(String[] args) {
        standAtAMile();
        standOfSeveral();
        standBeyond();
        kindOfOne();
        kindOfSeveral();
        kindBeyond();
        awakeSet();
        awakeOfSeveral();
        mostEarned();
        fewestWhoDo();
        fewestBeyond();
        fewestNone();
        whoDo();
        whoOfSeveral();
        whoBeyond();
        whoNone();
        spoilers();
        learner();
        learnerOfSeveral();
        learnNone();
        leastSkill();
        skillBeyond();
        skillNone();
        Document.allPromisesAreNamed(17, 25);
        Check.end();
    }

    /** Seven carriers of 6 each at one mile, and eight tasks there that need all, from one to more than seven of them. */
    private static SixFellows carriers() {
        SixFellows x = Roads.seven(0, 12);
        for (int i = 1; i <= 8; i++) {
            x.task(4, 12, i < 8 ? 6 * i : 43, 99);
        }
        return x;
    }

    private static SixFellows sleepers() {
        SixFellows x = carriers();
        for (int i = 0; i < 7; i++) {
            x.set(i, 4, 1);
        }
        return x;
    }

    private static SixFellows nobody() {
        SixFellows x = new SixFellows();
        x.task(4, 0, 1, 99);
        return x;
    }

    private static void standAtAMile() {
        Document.promise(17, "The MILE where one should stand so that most is EARNED;");
        Twins.answered(30, () -> Check.road("fellow at 0; task run at 30 need 1 pay 1"), "the last mile: stand(0)", x -> x.stand(0));
        Twins.answered(0, () -> Check.road("fellow at 30; task run at 0 need 1 pay 1"), "the first mile: stand(0)", x -> x.stand(0));
        Twins.answered(29, () -> Check.road("fellow at 0; task run at 29 need 1 pay 1"), "the one before: stand(0)", x -> x.stand(0));
        Twins.answered(12, WhereWhomEdgesTest::carriers, "the last of seven: stand(6)", x -> x.stand(6));
        Twins.answered(27, () -> Check.road("hunter at 30; blower at 30; task shoot at 30 need 18 pay 9; task blow at 30 need 19 pay 9"),
            "out of the way, and near enough: stand(1)", x -> x.stand(1));
        Twins.answered(12, () -> Check.road("fellow at 0; task carry at 10 need 4 pay 9; task carry at 16 need 2 pay 8; task run at 0 need 1 pay 16"),
            "most by two, not by the best one: stand(0)", x -> x.stand(0));
    }

    private static void standOfSeveral() {
        Document.promise(17, "of several the least.");
        Twins.answered(0, () -> Roads.seven(0, 30), "no task: stand(6)", x -> x.stand(6));
        Twins.answered(0, WhereWhomEdgesTest::sleepers, "asleep: stand(6)", x -> x.stand(6));
        Twins.answered(25, () -> Check.road("fellow at 30; task carry at 30 need 1 pay 1"), "from 25 to 30: stand(0)", x -> x.stand(0));
        Twins.answered(1, () -> Check.road("fellow at 6; task carry at 6 need 1 pay 1"), "from 1 to 11: stand(0)", x -> x.stand(0));
        Twins.answered(0, () -> Check.road("fellow at 30; task run at 0 need 1 pay 1; task run at 30 need 1 pay 1"),
            "0 or 30: stand(0)", x -> x.stand(0));
    }

    private static void standBeyond() {
        Document.promise(17, "BEYOND.");
        Twins.beyond(Roads::empty, "nobody: stand(?)", 0, -1, (x, v) -> x.stand(v));
        Twins.beyond(Roads::some, "stand(?)", 0, Roads.SOME_FELLOWS - 1, (x, v) -> x.stand(v));
        Twins.beyond(Roads::full, "seven: stand(?)", 0, 6, (x, v) -> x.stand(v));
    }

    private static void kindOfOne() {
        Document.promise(18, "The KIND as one of which one lets most be EARNED;");
        String[] tasks = {"task carry at 9 need 6 pay 9", "task run at 9 need 15 pay 9", "task shoot at 9 need 18 pay 9",
            "task blow at 9 need 21 pay 9", "task run at 9 need 30 pay 9", "task freeze at 9 need 24 pay 9"};
        for (int kind = 0; kind < 6; kind++) {
            for (int was = 0; was < 6; was++) {
                int w = was;
                String task = tasks[kind];
                Twins.answered(kind, () -> ofKind(w, task), task + ": kind(0)", x -> x.kind(0));
            }
        }
        SixFellows seven = Roads.seven(0, 9);
        seven.task(3, 9, 30, 1);
        Check.due("the last of seven, 24 and 6: kind(6)", seven.kind(6), 5);
    }

    private static SixFellows ofKind(int kind, String task) {
        SixFellows x = Check.road("fellow at 9; " + task);
        x.turn(0, kind);
        return x;
    }

    private static void kindOfSeveral() {
        Document.promise(18, "of several the least.");
        Twins.answered(0, () -> Roads.seven(5, 30), "no task: kind(6)", x -> x.kind(6));
        Twins.answered(0, WhereWhomEdgesTest::sleepers, "asleep: kind(6)", x -> x.kind(6));
        Twins.answered(1, () -> Check.road("legged at 0; task run at 0 need 15 pay 1"), "runner or legged: kind(0)", x -> x.kind(0));
        Twins.answered(3, () -> Check.road("hatted at 0; task blow at 0 need 10 pay 1"), "blower or hatted: kind(0)", x -> x.kind(0));
        Twins.answered(4, () -> Check.road("fellow at 0; task run at 0 need 16 pay 5; task freeze at 0 need 24 pay 5"),
            "legged or hatted: kind(0)", x -> x.kind(0));
    }

    private static void kindBeyond() {
        Document.promise(18, "BEYOND.");
        Twins.beyond(Roads::empty, "nobody: kind(?)", 0, -1, (x, v) -> x.kind(v));
        Twins.beyond(Roads::some, "kind(?)", 0, Roads.SOME_FELLOWS - 1, (x, v) -> x.kind(v));
        Twins.beyond(Roads::full, "seven: kind(?)", 0, 6, (x, v) -> x.kind(v));
    }

    private static void awakeSet() {
        Document.promise(19, "The set of those who are awake that should stay so (ALONE) so that most is EARNED;");
        Twins.answered(0, Roads::empty, "nobody: awake()", x -> x.awake());
        Twins.answered(0, WhereWhomEdgesTest::nobody, "nobody, a task: awake()", x -> x.awake());
        Twins.answered(127, WhereWhomEdgesTest::carriers, "all seven: awake()", x -> x.awake());
        Twins.answered(0, WhereWhomEdgesTest::sleepers, "all asleep: awake()", x -> x.awake());
        SixFellows x = carriers();
        x.set(0, 4, 1);
        Check.due("all that are awake, the first asleep: awake()", x.awake(), 0b1111110);
        x.set(6, 4, 1);
        Check.due("the last asleep, too: awake()", x.awake(), 0b0111110);
        Twins.answered(0b01, () -> Check.road("hunter at 3; blower at 5; task shoot at 3 need 18 pay 2; task blow at 5 need 21 pay 1"),
            "whom one should let sleep: awake()", y -> y.awake());
        Twins.answered(0b10, () -> Check.road("hunter at 3; blower at 5; task shoot at 3 need 18 pay 1; task blow at 5 need 21 pay 2"),
            "the other way round: awake()", y -> y.awake());
    }

    private static void awakeOfSeveral() {
        Document.promise(19, "of several the one with fewest, then the least.");
        Twins.answered(0, () -> Roads.seven(0, 0), "no task, nobody is needed: awake()", x -> x.awake());
        Twins.answered(0, () -> Check.road("fellow at 0; task carry at 0 need 6 pay 0"), "a task for 0: awake()", x -> x.awake());
        Twins.answered(0b100, () -> Check.road("fellow at 0 skill 1; fellow at 0 skill 1; fellow at 0 skill 2; task carry at 0 need 4 pay 1"),
            "one ahead of two, though not the least: awake()", x -> x.awake());
        Twins.answered(0b001, () -> Check.road("fellow at 0; fellow at 0; fellow at 0; task carry at 0 need 6 pay 1"),
            "of three the least: awake()", x -> x.awake());
        Twins.answered(0b011, () -> Check.road("fellow at 0; fellow at 0; fellow at 0; task carry at 0 need 12 pay 1"),
            "of three pairs the least: awake()", x -> x.awake());
        Twins.answered(0b01, () -> Check.road("hunter at 3; blower at 5; task shoot at 3 need 18 pay 1; task blow at 5 need 21 pay 1"),
            "one or the other: awake()", x -> x.awake());
    }

    private static void mostEarned() {
        Document.promise(20, "What is EARNED by it.");
        Twins.answered(0, Roads::empty, "nobody: most()", x -> x.most());
        Twins.answered(0, () -> Roads.seven(0, 0), "no task: most()", x -> x.most());
        Twins.answered(0, WhereWhomEdgesTest::sleepers, "all asleep: most()", x -> x.most());
        Twins.answered(693, WhereWhomEdgesTest::carriers, "all seven: most()", x -> x.most());
        Twins.answered(792, Roads::eight, "eight: most()", x -> x.most());
        Twins.answered(99, () -> Check.road("hunter at 3; blower at 5; task shoot at 3 need 18 pay 99; task blow at 5 need 21 pay 98"),
            "more than all earn: most()", x -> x.most());
    }

    private static void fewestWhoDo() {
        Document.promise(21, "The fewest of those who are awake by whom (ALONE) a TASK is MET.");
        for (int i = 0; i < 7; i++) {
            int task = i;
            Twins.answered(i + 1, WhereWhomEdgesTest::carriers, "fewest(" + i + ")", x -> x.fewest(task));
        }
        SixFellows x = carriers();
        x.set(3, 4, 1);
        Check.due("six awake: fewest(5)", x.fewest(5), 6);
        Check.due("six awake: fewest(6)", x.fewest(6), Check.NONE);
        Twins.answered(1, () -> Check.road("hunter at 3; blower at 5; task shoot at 3 need 18 pay 1"), "alone it is not spoilt: fewest(0)",
            y -> y.fewest(0));
    }

    private static void fewestBeyond() {
        Document.promise(21, "BEYOND.");
        Twins.beyond(Roads::empty, "no task: fewest(?)", 0, -1, (x, v) -> x.fewest(v));
        Twins.beyond(Roads::some, "fewest(?)", 0, Roads.SOME_TASKS - 1, (x, v) -> x.fewest(v));
        Twins.beyond(Roads::full, "eight: fewest(?)", 0, 7, (x, v) -> x.fewest(v));
    }

    private static void fewestNone() {
        Document.promise(21, "NONE.");
        Twins.refused(Check.NONE, WhereWhomEdgesTest::nobody, "nobody: fewest(0)", x -> x.fewest(0));
        Twins.refused(Check.NONE, WhereWhomEdgesTest::carriers, "1 more than seven do: fewest(7)", x -> x.fewest(7));
        Twins.refused(Check.NONE, WhereWhomEdgesTest::sleepers, "all asleep: fewest(0)", x -> x.fewest(0));
    }

    private static void whoDo() {
        Document.promise(22, "These, as a set;");
        int set = 0;
        for (int i = 0; i < 7; i++) {
            int task = i;
            set |= 1 << i;
            Twins.answered(set, WhereWhomEdgesTest::carriers, "who(" + i + ")", x -> x.who(task));
        }
        Twins.answered(0b100, () -> Check.road("fellow at 0 skill 1; fellow at 0 skill 1; fellow at 0 skill 2; task carry at 0 need 4 pay 0"),
            "the fewest, though not the least: who(0)", x -> x.who(0));
    }

    private static void whoOfSeveral() {
        Document.promise(22, "of several the least.");
        SixFellows x = carriers();
        Check.due("of seven: who(0)", x.who(0), 0b0000001);
        x.set(0, 4, 1);
        Check.due("of the six awake: who(0)", x.who(0), 0b0000010);
        Check.due("of their pairs: who(1)", x.who(1), 0b0000110);
        x.set(2, 4, 1);
        Check.due("of the pairs of five: who(1)", x.who(1), 0b0001010);
        SixFellows last = sleepers();
        last.set(6, 4, 0);
        Check.due("of the last alone: who(0)", last.who(0), 0b1000000);
    }

    private static void whoBeyond() {
        Document.promise(22, "BEYOND.");
        Twins.beyond(Roads::empty, "no task: who(?)", 0, -1, (x, v) -> x.who(v));
        Twins.beyond(Roads::some, "who(?)", 0, Roads.SOME_TASKS - 1, (x, v) -> x.who(v));
        Twins.beyond(Roads::full, "eight: who(?)", 0, 7, (x, v) -> x.who(v));
    }

    private static void whoNone() {
        Document.promise(22, "NONE.");
        Twins.refused(Check.NONE, WhereWhomEdgesTest::nobody, "nobody: who(0)", x -> x.who(0));
        Twins.refused(Check.NONE, WhereWhomEdgesTest::carriers, "1 more than seven do: who(7)", x -> x.who(7));
        Twins.refused(Check.NONE, WhereWhomEdgesTest::sleepers, "all asleep: who(0)", x -> x.who(0));
    }

    private static void spoilers() {
        Document.promise(23, "Spoilers, as a set: those who are awake, and each of whom, being asleep, lets more be EARNED.");
        Twins.answered(0, Roads::empty, "nobody: spoils()", x -> x.spoils());
        Twins.answered(0, () -> Roads.seven(5, 0), "no task: spoils()", x -> x.spoils());
        Twins.answered(0, WhereWhomEdgesTest::sleepers, "all asleep: spoils()", x -> x.spoils());
        Twins.answered(0, WhereWhomEdgesTest::carriers, "all help: spoils()", x -> x.spoils());
        String pairs = "blower at 0; hunter at 2; hatted at 10; runner at 12; hunter at 20; fellow at 25; blower at 22;"
            + " task shoot at 2 need 18 pay 9; task run at 12 need 15 pay 9; task shoot at 20 need 18 pay 9;";
        Twins.answered(0b1000101, () -> Check.road(pairs + " task blow at 0 need 21 pay 8"), "three of seven: spoils()", x -> x.spoils());
        Twins.answered(0b1000100, () -> Check.road(pairs + " task blow at 0 need 21 pay 9"), "as much is not more: spoils()", x -> x.spoils());
        Twins.answered(0b1000001, () -> Check.road(pairs + " sleep 2"), "one asleep spoils nothing: spoils()", x -> x.spoils());
        Twins.answered(0, () -> Check.road("blower at 0; blower at 4; hunter at 2; task shoot at 2 need 18 pay 9"),
            "each of two alone is none: spoils()", x -> x.spoils());
    }

    private static void learner() {
        Document.promise(24, "The one whose SKILL, 1 more (9 at most), lets most more be EARNED;");
        Twins.answered(0, () -> Check.road("fellow at 0 skill 8; task carry at 0 need 18 pay 1"), "8 becomes 9: learn()", x -> x.learn());
        Twins.answered(0, () -> Check.road("fellow at 0 skill 1; task carry at 0 need 4 pay 1"), "1 becomes 2: learn()", x -> x.learn());
        Twins.answered(1, () -> Check.road("hunter at 0; runner at 0; task shoot at 0 need 20 pay 8; task run at 0 need 20 pay 9"),
            "most more: learn()", x -> x.learn());
        Twins.answered(2, () -> Check.road("hunter at 0 skill 9; runner at 0 skill 8; blower at 4 skill 4; task run at 0 need 45 pay 9;"
            + " task shoot at 0 need 60 pay 99; task blow at 4 need 35 pay 10"), "9 becomes no more: learn()", x -> x.learn());
        SixFellows seven = Roads.seven(0, 0);
        seven.set(6, 1, 24);
        seven.task(4, 24, 8, 1);
        Check.due("the last of seven: learn()", seven.learn(), 6);
    }

    private static void learnerOfSeveral() {
        Document.promise(24, "of several the least.");
        SixFellows seven = Roads.seven(0, 24);
        seven.task(4, 24, 44, 1);
        Check.due("each of seven: learn()", seven.learn(), 0);
        seven.set(0, 4, 1);
        seven.task(4, 24, 38, 1);
        Check.due("each of six: learn()", seven.learn(), 1);
        Twins.answered(1, () -> Check.road("fellow at 0; hunter at 0; runner at 0; task shoot at 0 need 21 pay 9; task run at 0 need 20 pay 9;"
            + " task carry at 0 need 20 pay 8"), "two with most more: learn()", x -> x.learn());
    }

    private static void learnNone() {
        Document.promise(24, "NONE: none does.");
        Twins.refused(Check.NONE, Roads::empty, "nobody: learn()", x -> x.learn());
        Twins.refused(Check.NONE, WhereWhomEdgesTest::nobody, "nobody, a task: learn()", x -> x.learn());
        Twins.refused(Check.NONE, () -> Roads.seven(0, 0), "no task: learn()", x -> x.learn());
        Twins.refused(Check.NONE, WhereWhomEdgesTest::sleepers, "all asleep: learn()", x -> x.learn());
        Twins.refused(Check.NONE, Roads::eight, "all are met: learn()", x -> x.learn());
        Twins.refused(Check.NONE, () -> Check.road("fellow at 0 skill 9; task carry at 0 need 20 pay 1"), "9 at most: learn()", x -> x.learn());
        Twins.refused(Check.NONE, () -> Check.road("fellow at 0; task carry at 0 need 9 pay 1"), "1 more is too little: learn()", x -> x.learn());
        Twins.refused(Check.NONE, () -> Check.road("fellow at 0; task carry at 0 need 8 pay 0"), "more for 0: learn()", x -> x.learn());
    }

    /** Seven, the last of whom carries alone, and eight tasks that need from 1 to more than it can do. */
    private static SixFellows lastCarries() {
        SixFellows x = Roads.seven(4, 30);
        x.turn(6, 0);
        int[] needs = {1, 2, 3, 16, 17, 18, 19, 18};
        for (int need : needs) {
            x.task(4, 30, need, 0);
        }
        return x;
    }

    private static void leastSkill() {
        Document.promise(25, "The least SKILL (1 to 9) of one with which a TASK is MET.");
        int[] least = {1, 1, 2, 8, 9, 9, Check.NONE, 9};
        for (int i = 0; i < 8; i++) {
            int task = i;
            if (i != 6) {
                Twins.answered(least[i], WhereWhomEdgesTest::lastCarries, "skill(6, " + i + ")", x -> x.skill(6, task));
            }
        }
        SixFellows other = lastCarries();
        Check.due("met by another, whatever one's own is: skill(0, 2)", other.skill(0, 2), 1);
        other.set(0, 4, 1);
        Check.due("asleep, met by another: skill(0, 2)", other.skill(0, 2), 1);
        other.set(6, 3, 9);
        Check.due("what it is now does not matter: skill(6, 2)", other.skill(6, 2), 2);
    }

    private static void skillBeyond() {
        Document.promise(25, "BEYOND.");
        Twins.beyond(Roads::empty, "nobody, no task: skill(?, 0)", 0, -1, (x, v) -> x.skill(v, 0));
        Twins.beyond(WhereWhomEdgesTest::nobody, "nobody: skill(?, 0), asked ahead of NONE", 0, -1, (x, v) -> x.skill(v, 0));
        Twins.beyond(() -> Roads.seven(0, 0), "no task: skill(6, ?)", 0, -1, (x, v) -> x.skill(6, v));
        Twins.beyond(Roads::some, "skill(?, 0)", 0, Roads.SOME_FELLOWS - 1, (x, v) -> x.skill(v, 0));
        Twins.beyond(Roads::some, "skill(0, ?)", 0, Roads.SOME_TASKS - 1, (x, v) -> x.skill(0, v));
        Twins.beyond(Roads::full, "seven: skill(?, 7), asked ahead of NONE", 0, 6, (x, v) -> x.skill(v, 7));
        Twins.beyond(Roads::full, "eight: skill(6, ?)", 0, 7, (x, v) -> x.skill(6, v));
    }

    private static void skillNone() {
        Document.promise(25, "NONE.");
        Twins.refused(Check.NONE, WhereWhomEdgesTest::lastCarries, "1 more than 9 does: skill(6, 6)", x -> x.skill(6, 6));
        Twins.refused(Check.NONE, WhereWhomEdgesTest::sleepers, "asleep: skill(6, 0)", x -> x.skill(6, 0));
        Twins.refused(Check.NONE, WhereWhomEdgesTest::lastCarries, "one that carries nothing: skill(0, 7)", x -> x.skill(0, 7));
    }
}

import java.util.List;

/** The document's terms (but for the text of a road), sentence by sentence, at their bounds. */
final class TermsEdgesTest {
    private static final int RUN = 0;
    private static final int SHOOT = 1;
    private static final int BLOW = 2;
    private static final int FREEZE = 3;
    private static final int CARRY = 4;

    public static void main(String[] args) {
        findings();
        findingsInOrder();
        findingsChangeNothing();
        quotients();
        sets();
        miles();
        hour();
        sevenFellows();
        kinds();
        whatAFellowHas();
        eightTasks();
        whatATaskHas();
        whatKindsDo();
        whoIsSpoilt();
        helps();
        met();
        earned();
        paces();
        anHour();
        onAndAlone();
        sheets();
        Document.isNamed(Document.TERMS);
        Check.end();
    }

    private static void says(String sentence) {
        Document.sentence(Document.TERMS, sentence);
    }

    private static void findings() {
        says("FINDINGS are answers below -1000000000: -1000000001 BEYOND, -1000000002 FULL, -1000000003 KIND, -1000000004 NONE,"
            + " -1000000005 STATE, -1000000006 MISSING, -1000000007 SIZE (in longs, too).");
        Check.due("BEYOND", new SixFellows().of(0, 0), -1000000001L);
        Check.due("FULL", Roads.full().fellow(0, 0), -1000000002L);
        Check.due("KIND", Roads.full().as(0, 1), -1000000003L);
        Check.due("NONE", new SixFellows().undo(), -1000000004L);
        Check.due("STATE", Roads.late().hours(1), -1000000005L);
        Check.due("MISSING", new SixFellows().read(0), -1000000006L);
        Check.due("SIZE", new SixFellows().sheet(0, 8, -1), -1000000007L);
        Check.due("BEYOND in longs: share(0)", new SixFellows().share(0), -1000000001L);
        Check.due("BEYOND in longs: write(4, 0, 0)", new SixFellows().write(4, 0, 0), -1000000001L);
        Check.due("MISSING in longs: write(0, 0, 0)", new SixFellows().write(0, 0, 0), -1000000006L);
        SixFellows x = new SixFellows();
        x.sheet(0, 64, 1);
        x.write(0, 0, Check.BEYOND);
        Check.due("a number like a finding is none", x.write(0, 0, 0), Check.BEYOND);
        Check.due("none is counted", x.status(-1), 0);
    }

    private static void findingsInOrder() {
        says("Each act tells its findings in the order in which they are asked;");
        Check.due("BEYOND ahead of FULL: fellow", Roads.full().fellow(6, 0), Check.BEYOND);
        Check.due("BEYOND ahead of KIND: as", Roads.full().as(0, 6), Check.BEYOND);
        Check.due("BEYOND ahead of FULL: task", Roads.full().task(0, 0, 0, 0), Check.BEYOND);
        Check.due("BEYOND ahead of STATE: hours", Roads.late().hours(61), Check.BEYOND);
        Check.due("BEYOND ahead of NONE: when", Roads.full().when(8), Check.BEYOND);
        Check.due("BEYOND ahead of NONE: fewest", Roads.full().fewest(8), Check.BEYOND);
        Check.due("BEYOND ahead of NONE: who", Roads.full().who(8), Check.BEYOND);
        Check.due("BEYOND ahead of NONE: skill", Roads.full().skill(7, 7), Check.BEYOND);
        Check.due("BEYOND ahead of FULL: feed", Roads.full().feed(0, 5), Check.BEYOND);
        Check.due("BEYOND ahead of SIZE: sheet", Roads.full().sheet(0, 7, -1), Check.BEYOND);
        Check.due("MISSING ahead of BEYOND: write", Roads.some().write(3, 40, 0), Check.MISSING);
        Check.due("BEYOND ahead of MISSING: copy", Roads.some().copy(3, 0, 4, 0, 0), Check.BEYOND);
        Check.due("MISSING ahead of KIND: copy", Roads.some().copy(3, 0, 0, 0, 0), Check.MISSING);
        Check.due("KIND ahead of BEYOND: copy", Roads.some().copy(0, 0, 1, 0, 40), Check.KIND);
        SixFellows x = Roads.full();
        x.copy(0, 0, 1, 0, 41);
        Check.due("one finding by one act", x.status(-1), 1);
    }

    private static void findingsChangeNothing() {
        says("one that answers a finding changes nothing but status().");
        Twins.Ask[] beyond = {x -> x.fellow(6, 0), x -> x.of(7, 0), x -> x.set(0, 1, 31), x -> x.turn(0, 6), x -> x.as(0, 6), x -> x.does(0, 5),
            x -> x.task(0, 31, 1, 0), x -> x.taskOf(0, 7), x -> x.helps(7, 0), x -> x.done(8), x -> x.hours(61), x -> x.now(6), x -> x.on(61),
            x -> x.when(8), x -> x.stand(7), x -> x.kind(7), x -> x.fewest(8), x -> x.who(8), x -> x.skill(0, 8), x -> x.missed(7),
            x -> x.share(7), x -> x.sets(1000), x -> x.feed(0, 5), x -> x.sheet(0, 8, 41), x -> x.write(0, 40, 1), x -> x.copy(0, 0, 0, 1, 40),
            x -> x.lays(4), x -> x.book(4), x -> x.read(4), x -> x.count(5), x -> x.status(7)};
        for (int i = 0; i < beyond.length; i++) {
            Twins.refused(Check.BEYOND, Roads::full, "refused call " + i, beyond[i]);
        }
        Twins.refused(Check.FULL, Roads::full, "fellow", x -> x.fellow(0, 0));
        Twins.refused(Check.FULL, Roads::full, "task", x -> x.task(0, 0, 1, 0));
        Twins.refused(Check.FULL, Roads::full, "feed", x -> x.feed(0, 1));
        Twins.refused(Check.KIND, Roads::full, "as", x -> x.as(0, 1));
        Twins.refused(Check.KIND, Roads::full, "copy", x -> x.copy(0, 0, 1, 0, 1));
        Twins.refused(Check.NONE, Roads::full, "when", x -> x.when(7));
        Twins.refused(Check.NONE, Roads::full, "fewest", x -> x.fewest(7));
        Twins.refused(Check.NONE, Roads::full, "who", x -> x.who(7));
        Twins.refused(Check.NONE, Roads::full, "skill", x -> x.skill(0, 7));
        Twins.refused(Check.NONE, Roads::late, "learn", x -> x.learn());
        Twins.refused(Check.NONE, Roads::empty, "first", x -> x.first());
        Twins.refused(Check.NONE, Roads::late, "undo", x -> x.undo());
        Twins.refused(Check.STATE, Roads::late, "hours", x -> x.hours(1));
        Twins.refused(Check.MISSING, Roads::some, "write", x -> x.write(3, 0, 1));
        Twins.refused(Check.MISSING, Roads::some, "copy", x -> x.copy(0, 0, 3, 0, 1));
        Twins.refused(Check.MISSING, Roads::some, "lays", x -> x.lays(3));
        Twins.refused(Check.MISSING, Roads::some, "book", x -> x.book(3));
        Twins.refused(Check.MISSING, Roads::some, "read", x -> x.read(3));
        Twins.refused(Check.SIZE, Roads::full, "sheet", x -> x.sheet(0, 0, -1));
    }

    private static void quotients() {
        says("Quotients are cut.");
        Check.due("half of 7", Check.road("hatted at 0 skill 1").does(0, BLOW), 3);
        Check.due("half of 63", Check.road("hatted at 0 skill 9").does(0, BLOW), 31);
        Check.due("half of 15", helpOf("runner at 0; hatted at 2", RUN, 0), 7);
        Check.due("half of 1", helpOf("runner at 0; hatted at 2", SHOOT, 0), 0);
        Check.due("half of 45", helpOf("runner at 0 skill 9; hatted at 2", RUN, 0), 22);
    }

    /** What the first one helps a task of a sort at a mile. */
    private static int helpOf(String road, int sort, int mile) {
        SixFellows x = Check.road(road);
        x.task(sort, mile, 1, 1);
        return x.helps(0, 0);
    }

    private static void sets() {
        says("Sets are told by bits.");
        for (int i = 0; i < 7; i++) {
            SixFellows x = Roads.seven(0, 0);
            x.set(i, 4, 1);
            Check.due("asleep: " + i, x.now(3), 1 << i);
        }
        for (int i = 0; i < 8; i++) {
            SixFellows x = new SixFellows();
            x.fellow(0, 0);
            for (int task = 0; task < 8; task++) {
                x.task(CARRY, 0, task == i ? 6 : 7, 1);
            }
            Check.due("met: " + i, x.now(1), 1 << i);
        }
    }

    private static void miles() {
        says("THE ROAD: MILES 0 to 30.");
        int[] within = {0, 1, 29, 30};
        int[] without = {-1, 31, Integer.MIN_VALUE, Integer.MAX_VALUE};
        for (int mile : within) {
            SixFellows x = new SixFellows();
            Check.due("fellow(0, " + mile + ")", x.fellow(0, mile), 0);
            Check.due("task(0, " + mile + ", 1, 0)", x.task(0, mile, 1, 0), 0);
            Check.due("set(0, 1, " + mile + ")", x.set(0, 1, mile), mile);
            Check.due("set(0, 2, " + mile + ")", x.set(0, 2, mile), mile);
        }
        for (int mile : without) {
            SixFellows x = Check.road("fellow at 0");
            Check.due("fellow(0, " + mile + ")", x.fellow(0, mile), Check.BEYOND);
            Check.due("task(0, " + mile + ", 1, 0)", x.task(0, mile, 1, 0), Check.BEYOND);
            Check.due("set(0, 1, " + mile + ")", x.set(0, 1, mile), Check.BEYOND);
            Check.due("set(0, 2, " + mile + ")", x.set(0, 2, mile), Check.BEYOND);
        }
    }

    private static void hour() {
        says("HOUR: 0 at first (9999 at most).");
        Check.due("at first", new SixFellows().now(0), 0);
        SixFellows x = Roads.atHour(9999);
        Check.due("at most", x.now(0), 9999);
        Check.due("no more", x.hours(1), Check.STATE);
        Check.due("as it was", x.now(0), 9999);
    }

    private static void sevenFellows() {
        says("FELLOWS 0, 1, .. (at most 7)");
        SixFellows x = new SixFellows();
        for (int i = 0; i < 7; i++) {
            Check.due("fellow", x.fellow(0, 0), i);
        }
        Check.due("an 8th", x.fellow(0, 0), Check.FULL);
        Check.due("an 8th of a text", Check.tell(x, "fellow at 0"), -1);
    }

    private static void kinds() {
        says("are of KINDS: 0 FELLOW, 1 RUNNER under FELLOW, 2 HUNTER under FELLOW, 3 BLOWER under FELLOW, 4 LEGGED under RUNNER,"
            + " 5 HATTED under BLOWER;");
        String[] names = {"fellow", "runner", "hunter", "blower", "legged", "hatted"};
        int[] above = {-1, 0, 0, 0, 1, 3};
        for (int kind = 0; kind < 6; kind++) {
            SixFellows x = Check.road(names[kind] + " at 0 skill 7");
            Check.due(names[kind], x.of(0, 0), kind);
            for (int other = 0; other < 6; other++) {
                boolean is = other == kind || other == above[kind] || other == 0;
                Check.due(names[kind] + " as " + names[other], x.as(0, other), is ? 7 : Check.KIND);
            }
        }
    }

    private static void whatAFellowHas() {
        says("each AT a MILE, with a GOAL (a MILE; where it came at first), SKILL (1 to 9; 3 at first), ASLEEP or awake (at first).");
        int[] miles = {0, 30};
        for (int mile : miles) {
            SixFellows x = new SixFellows();
            x.fellow(4, mile);
            int[] want = {4, mile, mile, 3, 0};
            for (int what = 0; what < want.length; what++) {
                Check.due("at first: of(0, " + what + ")", x.of(0, what), want[what]);
            }
            Check.due("skill 1", x.set(0, 3, 1), 3);
            Check.due("skill 9", x.set(0, 3, 9), 1);
            Check.due("skill 0", x.set(0, 3, 0), Check.BEYOND);
            Check.due("skill 10", x.set(0, 3, 10), Check.BEYOND);
            Check.due("still 9", x.of(0, 3), 9);
        }
    }

    private static void eightTasks() {
        says("TASKS 0, 1, .. (at most 8):");
        SixFellows x = new SixFellows();
        for (int i = 0; i < 8; i++) {
            Check.due("task", x.task(0, 0, 1, 0), i);
        }
        Check.due("a 9th", x.task(0, 0, 1, 0), Check.FULL);
        Check.due("a 9th of a text", Check.tell(x, "task run at 0 need 1 pay 0"), -1);
    }

    private static void whatATaskHas() {
        says("a SORT (0 RUN, 1 SHOOT, 2 BLOW, 3 FREEZE, 4 CARRY), a MILE, a NEED (1 to 99), a PAY (0 to 99).");
        String[] names = {"run", "shoot", "blow", "freeze", "carry"};
        for (int sort = 0; sort < 5; sort++) {
            SixFellows x = Check.road("task " + names[sort] + " at 30 need 99 pay 99; task " + names[sort] + " at 0 need 1 pay 0");
            int[][] want = {{sort, 30, 99, 99}, {sort, 0, 1, 0}};
            for (int i = 0; i < 2; i++) {
                for (int what = 0; what < 4; what++) {
                    Check.due("taskOf(" + i + ", " + what + ")", x.taskOf(i, what), want[i][what]);
                }
            }
            Check.due("need 0", x.task(sort, 0, 0, 0), Check.BEYOND);
            Check.due("need 100", x.task(sort, 0, 100, 0), Check.BEYOND);
            Check.due("pay -1", x.task(sort, 0, 1, -1), Check.BEYOND);
            Check.due("pay 100", x.task(sort, 0, 1, 100), Check.BEYOND);
        }
    }

    /** Of a kind by skills 1 and 9, by RUN, SHOOT, BLOW, FREEZE and CARRY. */
    private static void does(String kind, int[] bySkill1, int[] bySkill9) {
        for (int sort = 0; sort < 5; sort++) {
            Check.due(kind + " by 1: does(0, " + sort + ")", Check.road(kind + " at 0 skill 1").does(0, sort), bySkill1[sort]);
            Check.due(kind + " by 9: does(0, " + sort + ")", Check.road(kind + " at 0 skill 9").does(0, sort), bySkill9[sort]);
        }
    }

    private static void whatKindsDo() {
        says("DOES, by SORT: FELLOW: CARRY: twice SKILL; all others: 1.");
        does("fellow", new int[] {1, 1, 1, 1, 2}, new int[] {1, 1, 1, 1, 18});
        says("RUNNER: RUN: 5 times SKILL; else as FELLOW.");
        does("runner", new int[] {5, 1, 1, 1, 2}, new int[] {45, 1, 1, 1, 18});
        says("HUNTER: SHOOT: 6 times SKILL; else as FELLOW.");
        does("hunter", new int[] {1, 6, 1, 1, 2}, new int[] {1, 54, 1, 1, 18});
        says("BLOWER: BLOW: 7 times SKILL; else as FELLOW.");
        does("blower", new int[] {1, 1, 7, 1, 2}, new int[] {1, 1, 63, 1, 18});
        says("LEGGED: RUN: twice as RUNNER; CARRY: 0; else as RUNNER.");
        does("legged", new int[] {10, 1, 1, 1, 0}, new int[] {90, 1, 1, 1, 0});
        says("HATTED: FREEZE: 8 times SKILL; BLOW: half as BLOWER; else as BLOWER.");
        does("hatted", new int[] {1, 1, 3, 8, 2}, new int[] {1, 1, 31, 72, 18});
    }

    /** Beside each kind, awake and asleep, at all miles near: only the named ones spoil, 2 miles or less away, awake. */
    private static void spoiltBy(String kind, String... spoilers) {
        String[] others = {"fellow", "runner", "hunter", "blower", "legged", "hatted"};
        for (String other : others) {
            boolean spoils = List.of(spoilers).contains(other);
            for (int mile = 0; mile <= 6; mile++) {
                SixFellows x = Check.road(kind + " at 3; " + other + " at " + mile);
                boolean near = mile >= 1 && mile <= 5;
                Check.due(kind + " at 3, " + other + " at " + mile, x.of(0, 5), spoils && near ? 1 : 0);
                x.set(1, 4, 1);
                Check.due(kind + " at 3, " + other + " asleep at " + mile, x.of(0, 5), 0);
            }
        }
    }

    private static void whoIsSpoilt() {
        says("SPOILT: FELLOW: never.");
        spoiltBy("fellow");
        says("HUNTER: if another BLOWER (or one under it) that is awake is 2 MILES or less away.");
        spoiltBy("hunter", "blower", "hatted");
        says("RUNNER: if another HATTED that is awake is 2 MILES or less away.");
        spoiltBy("runner", "hatted");
        says("(All others as the KIND above.)");
        spoiltBy("legged", "hatted");
        spoiltBy("blower");
        spoiltBy("hatted");
        SixFellows x = Check.road("hunter at 0; blower at 2; runner at 0; hatted at 3; hunter at 6");
        Check.due("each by its own spoiler, 2 miles away, not 3", x.now(4), 0b00001);
        x.set(3, 1, 2);
        Check.due("one may spoil several", x.now(4), 0b00101);
    }

    private static void helps() {
        says("HELPS a TASK: what one DOES by its SORT, half of that if one is SPOILT, less the MILES between (0 at least); 0, if one is ASLEEP.");
        Check.due("all of 15", helpOf("runner at 10", RUN, 10), 15);
        Check.due("15 less 10, behind", helpOf("runner at 10", RUN, 0), 5);
        Check.due("15 less 10, ahead", helpOf("runner at 10", RUN, 20), 5);
        Check.due("15 less 14", helpOf("runner at 10", RUN, 24), 1);
        Check.due("15 less 15", helpOf("runner at 10", RUN, 25), 0);
        Check.due("15 less 16", helpOf("runner at 10", RUN, 26), 0);
        Check.due("15 less 20", helpOf("runner at 10", RUN, 30), 0);
        Check.due("half of 15, less 4: the half first", helpOf("runner at 10; hatted at 8", RUN, 14), 3);
        Check.due("half of 15, less 7", helpOf("runner at 10; hatted at 8", RUN, 17), 0);
        Check.due("half of 15, less 8", helpOf("runner at 10; hatted at 8", RUN, 18), 0);
        Check.due("half of what one carries", helpOf("runner at 10; hatted at 8", CARRY, 10), 3);
        Check.due("a spoiler asleep", helpOf("runner at 10; hatted at 8 asleep", RUN, 14), 11);
        Check.due("0, if one is asleep", helpOf("runner at 10 asleep", RUN, 10), 0);
        Check.due("0, if one is asleep and spoilt", helpOf("runner at 10 asleep; hatted at 8", RUN, 10), 0);
        Check.due("by its sort", helpOf("hatted at 10", FREEZE, 10), 24);
    }

    private static void met() {
        says("MET: a TASK, if what all HELP it together is its NEED or more.");
        SixFellows x = Check.road("fellow at 0; fellow at 1; fellow at 6; task carry at 0 need 10 pay 0; task carry at 0 need 11 pay 0;"
            + " task carry at 0 need 12 pay 0");
        Check.due("6 and 5 and 0", x.taskOf(0, 4), 11);
        Check.due("more, just so, less", x.now(1), 0b011);
        x.set(2, 1, 5);
        Check.due("and 1", x.now(1), 0b111);
        SixFellows nobody = Check.road("task carry at 0 need 1 pay 9");
        Check.due("nobody meets the least", nobody.now(1), 0);
    }

    private static void earned() {
        says("EARNED: PAY of all TASKS that are MET, together.");
        SixFellows x = Check.road("fellow at 0; task carry at 0 need 6 pay 99; task carry at 0 need 7 pay 50; task carry at 0 need 1 pay 1;"
            + " task carry at 0 need 1 pay 0");
        Check.due("99 and 1 and 0", x.now(2), 100);
        Check.due("eight for 99", Roads.eight().now(2), 792);
        Check.due("none", new SixFellows().now(2), 0);
    }

    private static void pace(String kind, int pace) {
        SixFellows x = Check.road(kind + " at 0 goes 30; " + kind + " at 30 goes 0; " + kind + " at 0 goes 30 asleep");
        Check.due(kind + ": of(0, 6)", x.of(0, 6), pace);
        x.hours(1);
        Check.due(kind + " on its way", x.of(0, 1), pace);
        Check.due(kind + " on its way back", x.of(1, 1), 30 - pace);
        Check.due(kind + " asleep", x.of(2, 1), 0);
    }

    private static void paces() {
        says("PACE: FELLOW: 1.");
        pace("fellow", 1);
        says("RUNNER: 3.");
        pace("runner", 3);
        says("LEGGED: twice as RUNNER.");
        pace("legged", 6);
        says("(All others as the KIND above.)");
        pace("hunter", 1);
        pace("blower", 1);
        pace("hatted", 1);
    }

    private static void anHour() {
        says("AN HOUR goes: each that is awake goes PACE MILES towards its GOAL (no farther).");
        int[][] fromTo = {{0, 5}, {0, 6}, {0, 7}, {30, 25}, {30, 24}, {30, 23}, {30, 30}, {0, 0}, {29, 30}, {1, 0}};
        int[] there = {5, 6, 6, 25, 24, 24, 30, 0, 30, 0};
        for (int i = 0; i < fromTo.length; i++) {
            String walk = "legged at " + fromTo[i][0] + " goes " + fromTo[i][1];
            SixFellows x = Check.road(walk);
            x.hours(1);
            Check.due(walk, x.of(0, 1), there[i]);
            Check.due(walk + ": the goal stays", x.of(0, 2), fromTo[i][1]);
            SixFellows asleep = Check.road(walk + " asleep");
            asleep.hours(60);
            Check.due(walk + ", asleep", asleep.of(0, 1), fromTo[i][0]);
        }
        says("HOUR is 1 more.");
        SixFellows x = new SixFellows();
        x.hours(1);
        Check.due("1", x.now(0), 1);
        x.hours(60);
        Check.due("60 more", x.now(0), 61);
    }

    private static void onAndAlone() {
        says("ON: n HOURS go on with all as it is; nothing changes.");
        Twins.Ask[] asks = {x -> x.on(60), x -> x.when(0), x -> x.best(), x -> x.stand(0), x -> x.kind(0), x -> x.awake(), x -> x.most(),
            x -> x.fewest(0), x -> x.who(0), x -> x.spoils(), x -> x.skill(0, 0), x -> x.missed(0), x -> x.share(0), x -> x.first(),
            x -> x.sets(1), x -> x.read(0), x -> x.of(0, 7), x -> x.taskOf(0, 4), x -> x.helps(0, 0), x -> x.now(2)};
        for (int i = 0; i < asks.length; i++) {
            Twins.answered(asks[i].of(Roads.full()), Roads::full, "question " + i, asks[i]);
        }
        SixFellows booked = Roads.full();
        booked.book(3);
        Twins.isAsItsTwin("book(3), of no numbers,", booked, Roads.full());
        says("A set of FELLOWS ALONE: as if all others were ASLEEP (those of the set as they are).");
        SixFellows x = Check.road("hunter at 0; blower at 2; hunter at 0 asleep; task shoot at 0 need 18 pay 9");
        Check.due("one alone is not spoilt: who(0)", x.who(0), 0b001);
        Check.due("with or without the one asleep: sets(9)", x.sets(9), 2);
        Check.due("one asleep brings nothing: share(2)", x.share(2), 0);
    }

    private static void sheets() {
        says("SHEETS 0 to 3 are rows of at most 40 numbers of 8, 16 or 64 bits, or MISSING (at first).");
        for (int s = 0; s < 4; s++) {
            SixFellows x = new SixFellows();
            Check.due("at first: write(" + s + ", 0, 0)", x.write(s, 0, 0), Check.MISSING);
            Check.due("40 of 8 bits", x.sheet(s, 8, 40), 40);
            Check.due("40 of 16 bits", x.sheet(s, 16, 40), 40);
            Check.due("40 of 64 bits", x.sheet(s, 64, 40), 40);
            Check.due("the last", x.write(s, 39, Long.MIN_VALUE), 0);
            Check.due("kept whole", x.write(s, 39, 0), Long.MIN_VALUE);
            Check.due("no more", x.sheet(s, 64, 41), Check.BEYOND);
        }
        Check.due("sheet(-1, 8, 1)", new SixFellows().sheet(-1, 8, 1), Check.BEYOND);
        Check.due("sheet(4, 8, 1)", new SixFellows().sheet(4, 8, 1), Check.BEYOND);
    }
}

/** Promises 30 to 32. */
final class TextTest {
    public static void main(String[] args) {
        feed();
        feedOrder();
        wipe();
        items();
        itemsComeToWhatThereIs();
        blanks();
        numbers();
        bytesOfAnEarlierText();
        wordsWithAnotherFirstLetter();
        faultsOfFellows();
        faultsOfTasks();
        faultsOfSleep();
        faultsOfSigns();
        faultsByFullness();
        faultChangesNothing();
        Check.end();
    }

    private static void feed() {
        SixFellows x = new SixFellows();
        Check.due("feed(0, 0)", x.feed(0, 0), Check.BEYOND);
        Check.due("feed(0, 5)", x.feed(0, 5), Check.BEYOND);
        Check.due("feed(0, -1)", x.feed(0, -1), Check.BEYOND);
        Check.due("nothing came", x.count(2), 0);
        for (int i = 1; i <= 29; i++) {
            Check.due("feed 4", x.feed(-1, 4), 4 * i);
        }
        Check.due("feed 3", x.feed(0, 3), 119);
        for (int n = 2; n <= 4; n++) {
            Check.due("no room for " + n, x.feed(0, n), Check.FULL);
        }
        Check.due("nothing came", x.count(2), 119);
        Check.due("feed 1", x.feed(0, 1), 120);
        Check.due("no room for 1", x.feed(0, 1), Check.FULL);
        Check.due("BEYOND is asked ahead of FULL", x.feed(0, 5), Check.BEYOND);
        Check.due("FULL is counted", x.status(1), 4);
        Check.due("BEYOND is counted", x.status(0), 4);
    }

    private static void feedOrder() {
        SixFellows x = new SixFellows();
        x.feed('r' << 24 | 'u' << 16 | 'n' << 8 | 'n', 4);
        x.feed(77 << 24 | 'e' << 16 | 'r' << 8 | ' ', 3);
        x.feed(77 << 24 | 77 << 16 | 'a' << 8 | 't', 2);
        x.feed(-256 | '7', 1);
        Check.due("runner at7", x.road(), 1);
        Check.due("a runner", x.of(0, 0), 1);
        Check.due("at 7", x.of(0, 1), 7);
    }

    private static void wipe() {
        SixFellows x = new SixFellows();
        Check.due("wipe() of nothing", x.wipe(), 0);
        Check.feed(x, "zzz");
        Check.due("wipe()", x.wipe(), 3);
        Check.due("it is empty", x.count(2), 0);
        Check.due("wipe() again", x.wipe(), 0);
        Check.due("what comes then", Check.tell(x, "fellow at 1"), 1);
    }

    private static void items() {
        String[] kinds = {"fellow", "runner", "hunter", "blower", "legged", "hatted"};
        for (int kind = 0; kind < 6; kind++) {
            SixFellows x = new SixFellows();
            Check.due(kinds[kind], Check.tell(x, kinds[kind] + " at 30"), 1);
            isFellow(x, 0, kind, 30, 30, 3, 0);
            Check.due("the tape is empty", x.count(2), 0);
            Check.due("with all", Check.tell(x, kinds[kind] + " at 0 goes 30 skill 9 asleep"), 1);
            isFellow(x, 1, kind, 0, 30, 9, 1);
            Check.due("with goes", Check.tell(x, kinds[kind] + " at 4 goes 0"), 1);
            isFellow(x, 2, kind, 4, 0, 3, 0);
            Check.due("with skill", Check.tell(x, kinds[kind] + " at 4 skill 1"), 1);
            isFellow(x, 3, kind, 4, 4, 1, 0);
            Check.due("with asleep", Check.tell(x, kinds[kind] + " at 4 asleep"), 1);
            isFellow(x, 4, kind, 4, 4, 3, 1);
            Check.due("with goes, asleep", Check.tell(x, kinds[kind] + " at 4 goes 5 asleep"), 1);
            isFellow(x, 5, kind, 4, 5, 3, 1);
            Check.due("no findings", x.status(-1), 0);
        }
        String[] sorts = {"run", "shoot", "blow", "freeze", "carry"};
        SixFellows x = new SixFellows();
        for (int sort = 0; sort < 5; sort++) {
            int[] want = {sort, 30 - sort, sort == 0 ? 1 : 99 - sort, sort == 0 ? 0 : 100 - sort};
            String text = "task " + sorts[sort] + " at " + want[1] + " need " + want[2] + " pay " + want[3];
            Check.due(text, Check.tell(x, text), 1);
            for (int what = 0; what < 4; what++) {
                Check.due(text + ": " + what, x.taskOf(sort, what), want[what]);
            }
        }
    }

    private static void isFellow(SixFellows x, int fellow, int... want) {
        for (int what = 0; what < want.length; what++) {
            Check.due("of(" + fellow + ", " + what + ")", x.of(fellow, what), want[what]);
        }
    }

    private static void itemsComeToWhatThereIs() {
        SixFellows x = new SixFellows();
        x.fellow(0, 9);
        x.set(0, 4, 1);
        x.hours(5);
        Check.due("three items", Check.tell(x, "wake 0;runner at 2;sleep 1"), 3);
        isFellow(x, 0, 0, 9, 9, 3, 0);
        isFellow(x, 1, 1, 2, 2, 3, 1);
        Check.due("HOUR stays", x.now(0), 5);
        Check.due("of one's own text", Check.tell(x, "blower at 1 asleep;wake 2;sleep 2;wake 2;sleep 0;sleep 0"), 6);
        Check.due("asleep", x.now(3), 0b011);
        StringBuilder many = new StringBuilder("wake 0");
        for (int i = 0; i < 19; i++) {
            many.append(";wake0");
        }
        Check.due("twenty items in 120 bytes", Check.tell(x, many.toString()), 20);
        Check.due("awake by then", x.now(3), 0b010);
    }

    private static void blanks() {
        SixFellows x = new SixFellows();
        Check.due("none but where words meet", Check.tell(x, "fellow at3goes4skill5asleep;task run at6need7pay8;wake0"), 3);
        isFellow(x, 0, 0, 3, 4, 5, 0);
        Check.due("many", Check.tell(x, "   runner   at   3   skill   2  ;  sleep   1   "), 2);
        isFellow(x, 1, 1, 3, 3, 2, 1);
        Check.due("words run together", Check.tell(x, "fellowat 3"), -1);
        Check.due("a word cut in two", Check.tell(x, "fel low at 3"), -1);
        Check.due("a number cut in two", Check.tell(x, "fellow at 1 2"), -1 - 12);
        Check.due("only the blank is one: tab", Check.tell(x, "fellow\tat 3"), -1 - 6);
        Check.due("only the blank is one: line", Check.tell(x, "fellow at 3\n"), -1 - 11);
    }

    private static void numbers() {
        SixFellows x = new SixFellows();
        Check.due("with zeros ahead", Check.tell(x, "fellow at 007 skill 0009"), 1);
        isFellow(x, 0, 0, 7, 7, 9, 0);
        Check.due("1000", Check.tell(x, "fellow at 1000"), -1 - 10);
        Check.due("2 to the 32nd, and 5", Check.tell(x, "fellow at 4294967301"), -1 - 10);
        Check.due("2 to the 64th, and 5", Check.tell(x, "fellow at 18446744073709551621"), -1 - 10);
        Check.due("110 digits", Check.tell(x, "fellow at " + "9".repeat(110)), -1 - 10);
        Check.due("110 zeros", Check.tell(x, "fellow at " + "0".repeat(110)), 1);
        Check.due("a sign ahead", Check.tell(x, "fellow at -1"), -1 - 10);
    }

    private static void bytesOfAnEarlierText() {
        SixFellows x = new SixFellows();
        Check.due("letters", Check.tell(x, "z".repeat(120)), -1);
        Check.due("a word at the end", Check.tell(x, "fellow at 1 asleep"), 1);
        Check.due("digits", Check.tell(x, "9".repeat(120)), -1);
        Check.due("a number at the end", Check.tell(x, "fellow at 1"), 1);
        Check.due("a word at the end of a full tape", Check.tell(x, "fellow at 1" + " ".repeat(103) + "asleep"), 1);
        Check.due("a number at the end of a full tape", Check.tell(x, "fellow at" + " ".repeat(109) + "30"), 1);
        Check.due("blanks at the end of a full tape", Check.tell(x, "wake 0" + " ".repeat(114)), 1);
        Check.due("a sign at the end of a full tape", Check.tell(x, "wake 0" + " ".repeat(113) + ";"), -1 - 120);
        Check.due("asleep", x.now(3), 0b0100);
    }

    private static void wordsWithAnotherFirstLetter() {
        fault("gunner at 1", 0);
        fault("yellow at 1", 0);
        fault("runner it 1", 7);
        fault("runner at 1 does 2", 12);
        fault("runner at 1 Skill 2", 12);
        fault("mask run at 1 need 1 pay 1", 0);
        fault("task fun at 1 need 1 pay 1", 5);
        fault("task run at 1 feed 1 pay 1", 14);
        fault("task run at 1 need 1 say 1", 21);
        fault("bake 0", 0);
    }

    private static void fault(String text, int place) {
        SixFellows x = new SixFellows();
        x.fellow(0, 5);
        x.fellow(0, 6);
        Check.due("'" + text + "'", Check.tell(x, text), -1 - place);
        Check.due("the tape is empty", x.count(2), 0);
        Check.due("none came", x.count(0) * 10 + x.count(1), 20);
        Check.due("no finding", x.status(-1), 0);
    }

    private static void faultsOfFellows() {
        fault("", 0);
        fault("   ", 3);
        fault("walker at 1", 0);
        fault("runners at 1", 0);
        fault("runne at 1", 0);
        fault("Runner at 1", 0);
        fault("at 1", 0);
        fault("7", 0);
        fault(";", 0);
        fault("runner", 6);
        fault("runner  ", 8);
        fault("runner 1", 7);
        fault("runner att 1", 7);
        fault("runner at", 9);
        fault("runner at goes", 10);
        fault("runner at 31", 10);
        fault("runner at 1 to", 12);
        fault("runner at 1 goes", 16);
        fault("runner at 1 goes 31", 17);
        fault("runner at 1 goes skill", 17);
        fault("runner at 1 skill", 17);
        fault("runner at 1 skill 0", 18);
        fault("runner at 1 skill 10", 18);
        fault("runner at 1 skill asleep", 18);
        fault("runner at 1 skill 2 goes 3", 20);
        fault("runner at 1 asleep skill 2", 19);
        fault("runner at 1 goes 2 goes 3", 19);
        fault("runner at 1 asleep asleep", 19);
        fault("runner at 1 runner at 2", 12);
        fault("runner at 1 asleep 2", 19);
    }

    private static void faultsOfTasks() {
        fault("task", 4);
        fault("task runs at 1 need 1 pay 1", 5);
        fault("task 1", 5);
        fault("task runner at 1 need 1 pay 1", 5);
        fault("task carry", 10);
        fault("task carry need 1", 11);
        fault("task carry at 31 need 1 pay 1", 14);
        fault("task carry at need", 14);
        fault("task carry at 1 pay 1", 16);
        fault("task carry at 1 need", 20);
        fault("task carry at 1 need 0 pay 1", 21);
        fault("task carry at 1 need 100 pay 1", 21);
        fault("task carry at 1 need 99", 23);
        fault("task carry at 1 need 99 pay", 27);
        fault("task carry at 1 need 99 pay 100", 28);
        fault("task carry at 1 need 99 pay 1000", 28);
        fault("task carry at 1 need 99 pay 99 asleep", 31);
    }

    private static void faultsOfSleep() {
        fault("wake", 4);
        fault("sleep ", 6);
        fault("wake 2", 5);
        fault("sleep 7", 6);
        fault("sleep me", 6);
        fault("wake ; wake 0", 5);
        fault("wake 0 1", 7);
        fault("sleep 2; fellow at 1", 6);
        fault("fellow at 1; sleep 3", 19);
        SixFellows nobody = new SixFellows();
        Check.due("nobody to wake", Check.tell(nobody, "wake 0"), -1 - 5);
    }

    private static void faultsOfSigns() {
        fault("wake 0;", 7);
        fault("wake 0; ", 8);
        fault("wake 0;;wake 1", 7);
        fault("wake 0 !", 7);
        fault("wake 0!", 6);
        fault("wake !0", 5);
        fault("!", 0);
        fault("wake 0; !", 8);
        fault("wake 0;\u00e9", 7);
        fault("wake 0;\u0000", 7);
        fault("wake 0,", 6);
        fault("wake 0; WAKE 0", 8);
        fault("wake 0; wAKE 0", 8);
        fault("wake 0; wake 1`", 14);
        fault("wake 0; wake 1{", 14);
        fault("wake 0; wake 1/", 14);
        fault("wake 0; wake 1:", 14);
        fault("zzz !", 0);
        fault("! zzz", 0);
    }

    private static void faultsByFullness() {
        SixFellows x = new SixFellows();
        for (int i = 0; i < 6; i++) {
            x.fellow(0, i);
        }
        Check.due("an 8th", Check.tell(x, "wake 0;runner at 4; blower at 9"), -1 - 20);
        Check.due("nor a 7th", x.count(0), 6);
        Check.due("an 8th, whatever is behind it", Check.tell(x, "runner at 4; blower !"), -1 - 13);
        Check.due("a 7th", Check.tell(x, "runner at 4"), 1);
        Check.due("there are", x.count(0), 7);
        Check.due("another word for an 8th", Check.tell(x, "walker at 4"), -1);
        for (int i = 0; i < 7; i++) {
            x.task(0, 0, 1, 1);
        }
        Check.due("a 9th", Check.tell(x, "task run at 1 need 1 pay 1; task run at 1 need 1 pay 1"), -1 - 28);
        Check.due("nor an 8th", x.count(1), 7);
        Check.due("an 8th task", Check.tell(x, "task run at 1 need 1 pay 1"), 1);
        Check.due("a 9th at once", Check.tell(x, " task 99"), -1 - 1);
        Check.due("no findings", x.status(-1), 0);
    }

    private static void faultChangesNothing() {
        SixFellows x = new SixFellows();
        x.fellow(0, 5);
        x.task(4, 5, 6, 7);
        x.hours(3);
        Check.due("a fault at the end", Check.tell(x, "sleep 0;hunter at 4 skill 9;task run at 1 need 1 pay 9;sleep 1;zzz"), -1 - 63);
        Check.due("fellows", x.count(0), 1);
        Check.due("tasks", x.count(1), 1);
        Check.due("asleep", x.now(3), 0);
        Check.due("EARNED", x.now(2), 7);
        Check.due("HOUR", x.now(0), 3);
        Check.due("the next text stands for itself", Check.tell(x, "wake 0"), 1);
    }
}

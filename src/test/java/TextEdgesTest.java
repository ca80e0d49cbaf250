import java.util.function.Supplier;

/** Promises 30 to 32 and the text of a road, sentence by sentence, at their bounds. */
final class TextEdgesTest {
    private static final String[] KINDS = {"fellow", "runner", "hunter", "blower", "legged", "hatted"};
    private static final String[] SORTS = {"run", "shoot", "blow", "freeze", "carry"};

    public static void main(String[] args) {
        feedBytes();
        feedHighestFirst();
        feedHowMany();
        feedBeyond();
        feedFull();
        wipeTape();
        roadItems();
        roadEmptiesTheTape();
        roadFault();
        roadFaultChangesNothing();
        tapeOfBytes();
        tokens();
        blanksBetween();
        itemsOfAText();
        newFellow();
        newTask();
        wakeAndSleep();
        faultOfAToken();
        faultsOfTheirOwn();
        faultAtTheEnd();
        Document.allPromisesAreNamed(30, 32);
        Document.isNamed(Document.TEXT);
        Check.end();
    }

    private static SixFellows tape(int bytes) {
        SixFellows x = new SixFellows();
        Check.feed(x, "a".repeat(bytes));
        return x;
    }

    private static void feedBytes() {
        Document.promise(30, "THE TAPE gets the n lowest bytes of a number behind it,");
        int[] numbers = {0, -1, Integer.MIN_VALUE, Integer.MAX_VALUE};
        for (int number : numbers) {
            for (int n = 1; n <= 4; n++) {
                Check.due("feed(" + number + ", " + n + ")", new SixFellows().feed(number, n), n);
            }
        }
        SixFellows x = new SixFellows();
        Check.feed(x, "wake");
        x.feed('z' << 24 | 'z' << 16 | 'z' << 8 | ' ', 1);
        x.feed(-256 | '0', 1);
        Check.due("only the lowest, behind what there is: 'wake 0' for nobody", x.road(), -1 - 5);
        SixFellows signs = new SixFellows();
        signs.feed(0x80ff7f00, 4);
        Check.due("each is a byte", signs.count(2), 4);
        Check.due("none of which begins a token", signs.road(), -1);
    }

    private static void feedHighestFirst() {
        Document.promise(30, "the highest of these first");
        SixFellows x = new SixFellows();
        x.feed('f' << 24 | 'e' << 16 | 'l' << 8 | 'l', 4);
        x.feed('!' << 24 | 'o' << 16 | 'w' << 8 | ' ', 3);
        x.feed('!' << 24 | '!' << 16 | 'a' << 8 | 't', 2);
        x.feed('!' << 24 | '!' << 16 | '!' << 8 | '3', 1);
        x.feed('!' << 24 | '!' << 16 | '0' << 8 | ';', 2);
        x.feed('f' << 24 | 'e' << 16 | 'l' << 8 | 'l', 4);
        x.feed('o' << 24 | 'w' << 16 | ' ' << 8 | 'a', 4);
        x.feed('!' << 24 | 't' << 16 | '0' << 8 | '2', 3);
        Check.due("'fellow at30;fellow at02'", x.road(), 2);
        Check.due("at 30", x.of(0, 1), 30);
        Check.due("at 2", x.of(1, 1), 2);
    }

    private static void feedHowMany() {
        Document.promise(30, "(n 1 to 4): how many it has.");
        SixFellows x = new SixFellows();
        Check.due("feed 1", x.feed(0, 1), 1);
        Check.due("feed 4", x.feed(0, 4), 5);
        Check.due("feed 3", x.feed(0, 3), 8);
        Check.due("feed 2", x.feed(0, 2), 10);
        Check.due("count(2)", x.count(2), 10);
        int[][] justRoom = {{119, 1}, {118, 2}, {117, 3}, {116, 4}};
        for (int[] r : justRoom) {
            SixFellows y = tape(r[0]);
            Check.due("behind " + r[0] + ": feed(0, " + r[1] + ")", y.feed(0, r[1]), 120);
            Check.due("no findings", y.status(-1), 0);
        }
    }

    private static void feedBeyond() {
        Document.promise(30, "BEYOND: n.");
        Twins.beyond(Roads::empty, "feed(0, ?)", 1, 4, (x, v) -> x.feed(0, v));
        Twins.beyond(Roads::some, "feed(-1, ?)", 1, 4, (x, v) -> x.feed(-1, v));
        Twins.beyond(Roads::full, "feed(0, ?), asked ahead of FULL", 1, 4, (x, v) -> x.feed(0, v));
    }

    private static void feedFull() {
        Document.promise(30, "FULL.");
        for (int n = 1; n <= 4; n++) {
            int bytes = n;
            Twins.refused(Check.FULL, Roads::full, "feed(0, " + n + ")", x -> x.feed(0, bytes));
            Twins.refused(Check.FULL, () -> tape(121 - bytes), "behind " + (121 - n) + ": feed(0, " + n + ")", x -> x.feed(0, bytes));
        }
    }

    private static void wipeTape() {
        Document.promise(31, "THE TAPE is empty: how many it had.");
        int[] sizes = {0, 1, 119, 120};
        for (int size : sizes) {
            SixFellows x = tape(size);
            Check.due("of " + size + ": wipe()", x.wipe(), size);
            Check.due("of " + size + ": count(2)", x.count(2), 0);
            Check.due("again: wipe()", x.wipe(), 0);
            Check.due("what comes is the first", Check.tell(x, "fellow at 3"), 1);
            Check.due("no findings", x.status(-1), 0);
        }
        SixFellows x = Roads.full();
        x.wipe();
        SixFellows twin = Roads.full();
        twin.wipe();
        twin.wipe();
        Twins.isAsItsTwin("wipe() of nothing", x, twin);
    }

    private static void roadItems() {
        Document.promise(32, "THE TAPE is THE TEXT of a ROAD, whose ITEMS come to what there is,");
        SixFellows x = Roads.some();
        Check.due("two items", x.road(), 2);
        Check.due("one more", x.count(0), 5);
        Check.due("asleep: those who were, and two more", x.now(3), 0b10110);
        int[] want = {1, 7, 9, 4, 1};
        for (int what = 0; what < want.length; what++) {
            Check.due("the new one: of(4, " + what + ")", x.of(4, what), want[what]);
        }
        Check.due("HOUR stays", x.now(0), 3);
        Check.due("tasks stay", x.count(1), 3);
        Check.due("the image stays: undo()", x.undo(), 3);
        SixFellows seven = new SixFellows();
        Check.due("seven at once", Check.tell(seven, "fellow at 0" + ";runner at 30".repeat(6)), 7);
        Check.due("there are", seven.count(0), 7);
        SixFellows eight = new SixFellows();
        String four = "task run at0need1pay0" + ";task run at0need1pay0".repeat(3);
        Check.due("four tasks", Check.tell(eight, four), 4);
        Check.due("four more", Check.tell(eight, four), 4);
        Check.due("there are", eight.count(1), 8);
    }

    private static void roadEmptiesTheTape() {
        Document.promise(32, "and empty then: how many ITEMS.");
        SixFellows x = Roads.full();
        Check.due("three items in 120 bytes", x.road(), 3);
        Check.due("count(2)", x.count(2), 0);
        Check.due("it is no text now", x.road(), -1);
        Check.due("no findings", x.status(-1), 0);
        SixFellows y = Check.road("fellow at 0");
        Check.due("one item", Check.tell(y, "wake 0"), 1);
        Check.due("20 items in 119 bytes", Check.tell(y, "wake0" + ";wake0".repeat(19)), 20);
    }

    private static void roadFault() {
        Document.promise(32, "With a FAULT: -1 less its place");
        SixFellows x = new SixFellows();
        Check.due("the first byte", Check.tell(x, "!"), -1);
        Check.due("the last byte of 120", Check.tell(x, "fellow at 3" + " ".repeat(108) + "!"), -1 - 119);
        Check.due("behind 120 bytes", Check.tell(x, "fellow at 3" + " ".repeat(108) + ";"), -1 - 120);
        Check.due("nobody came", x.count(0), 0);
    }

    private static void roadFaultChangesNothing() {
        Document.promise(32, "(nothing changes but that THE TAPE is empty; no finding).");
        fault(Roads::empty, "", 0);
        fault(Roads::some, "", 0);
        fault(Roads::some, "wake 1; sleep 0; hatted at 1 goes 2 skill 3 asleep; task run at 1 need 2 pay 3; sleep 4; wake 9", 94);
        fault(Roads::some, "blower at 1 goes 2 skill 3 asleep; hunter at 1 goes 2 skill 3 asleep; task run at 1 need 2 pay 3;", 97);
        fault(Roads::full, "wake 2; sleep 0; sleep 6; zzz", 26);
        fault(Roads::late, "wake 1; sleep 1; task", 21);
    }

    /** A text on an empty tape at fault, and all that was there left as it was. */
    private static void fault(Supplier<SixFellows> road, String text, int place) {
        SixFellows asked = road.get();
        SixFellows twin = road.get();
        asked.wipe();
        twin.wipe();
        Check.due("'" + text + "'", Check.tell(asked, text), -1 - place);
        Check.due("count(2) behind '" + text + "'", asked.count(2), 0);
        for (int which = -1; which <= 6; which++) {
            Check.due("status(" + which + ") behind '" + text + "'", asked.status(which), twin.status(which));
        }
        Twins.isAsItsTwin("the fault of '" + text + "'", asked, twin);
    }

    private static void takes(String text, int items) {
        SixFellows x = Check.road("fellow at 5; fellow at 6");
        Check.due("'" + text + "'", Check.tell(x, text), items);
        Check.due("no findings", x.status(-1), 0);
    }

    private static SixFellows two() {
        return Check.road("fellow at 5; fellow at 6");
    }

    private static void fault(String text, int place) {
        fault(TextEdgesTest::two, text, place);
    }

    private static void tapeOfBytes() {
        Document.sentence(Document.TEXT, "THE TEXT of a ROAD, from THE TAPE (bytes, at most 120).");
        takes("wake 0" + " ".repeat(114), 1);
        takes("wake " + " ".repeat(114) + "1", 1);
        takes("fellow at" + " ".repeat(104) + "3asleep", 1);
        SixFellows x = tape(120);
        Check.due("a word of 120 letters", x.road(), -1);
        Check.due("an empty tape", x.road(), -1);
    }

    private static void tokens() {
        Document.sentence(Document.TEXT, "TOKENS, each as long as can be: WORDS (letters a to z), NUMBERS (digits, 999 at most), SIGN ;");
        fault("fellowat 3", 0);
        fault("fellow atgoes 3", 7);
        fault("fellow at 3 goes 4 skill 5asleeping", 26);
        fault("fellow at 3 0", 12);
        fault("fellow at 300", 10);
        fault("fellow at 999", 10);
        fault("fellow at 1000", 10);
        fault("fellow at 4294967299", 10);
        fault("fellow at 18446744073709551619", 10);
        fault("fellow at " + "9".repeat(110), 10);
        fault("wake 1:", 6);
        fault("wake 1,wake 1", 6);
        fault("`ake 0", 0);
        fault("{ake 0", 0);
        fault("Wake 0", 0);
        fault("wakE 0", 0);
        fault("wake /", 5);
        fault("wake :", 5);
        fault("wake 0;:", 7);
        takes("fellow at 0030", 1);
        takes("fellow at 3goes 4skill 5asleep;wake 0", 2);
    }

    private static void blanksBetween() {
        Document.sentence(Document.TEXT, "; blanks may stand between.");
        takes("wake 0;wake 1", 2);
        takes("wake   0   ;   wake   1", 2);
        takes("wake0;wake1", 2);
        takes("   wake 0   ", 1);
        fault("wa ke 0", 0);
        fault("wake 0 0", 7);
        fault("wake\t0", 4);
        fault("wake 0\n", 6);
        fault("wake\u00000", 4);
        fault("wake\u00a00", 4);
    }

    private static void itemsOfAText() {
        Document.sentence(Document.TEXT, "TEXT: ITEM { ; ITEM }.");
        takes("wake 0", 1);
        takes("wake 0; wake 1", 2);
        takes("wake 0; fellow at 1; task run at 1 need 1 pay 1", 3);
        fault("; wake 0", 0);
        fault("wake 0; ; wake 1", 8);
        fault("wake 0 wake 1", 7);
        fault("wake 0;", 7);
        fault(";", 0);
    }

    private static void newFellow() {
        Document.sentence(Document.TEXT, "ITEM: the name of a KIND (fellow runner hunter blower legged hatted), at, a NUMBER (a MILE), perhaps goes and a"
            + " NUMBER (a MILE, its GOAL), perhaps skill and a NUMBER (1 to 9), perhaps asleep: a new FELLOW;");
        for (int kind = 0; kind < 6; kind++) {
            String name = KINDS[kind];
            isFellow(name + " at 0", kind, 0, 0, 3, 0);
            isFellow(name + " at 30", kind, 30, 30, 3, 0);
            isFellow(name + " at 30 goes 0", kind, 30, 0, 3, 0);
            isFellow(name + " at 0 goes 30", kind, 0, 30, 3, 0);
            isFellow(name + " at 7 skill 1", kind, 7, 7, 1, 0);
            isFellow(name + " at 7 skill 9", kind, 7, 7, 9, 0);
            isFellow(name + " at 7 asleep", kind, 7, 7, 3, 1);
            isFellow(name + " at 7 goes 8 asleep", kind, 7, 8, 3, 1);
            isFellow(name + " at 7 skill 9 asleep", kind, 7, 7, 9, 1);
            isFellow(name + " at 7 goes 8 skill 9", kind, 7, 8, 9, 0);
            isFellow(name + " at 30 goes 0 skill 1 asleep", kind, 30, 0, 1, 1);
            fault(name + " at 31", 10);
            fault(name + " at 3 goes 31", 17);
            fault(name + " at 3 skill 0", 18);
            fault(name + " at 3 skill 10", 18);
            fault(name + "s at 3", 0);
            fault(name.substring(0, 5) + " at 3", 0);
        }
        fault("fellow at", 9);
        fault("fellow at at 3", 10);
        fault("fellow 3", 7);
        fault("fellow at 3 goes skill 4", 17);
        fault("fellow at 3 skill asleep", 18);
        fault("fellow at 3 skill 4 goes 5", 20);
        fault("fellow at 3 asleep goes 5", 19);
        fault("fellow at 3 asleep skill 5", 19);
        fault("fellow at 3 goes 4 goes 5", 19);
        fault("fellow at 3 skill 4 skill 5", 20);
        fault("fellow at 3 asleep asleep", 19);
    }

    private static void isFellow(String text, int... want) {
        SixFellows x = two();
        Check.due("'" + text + "'", Check.tell(x, text), 1);
        Check.due("'" + text + "': one more", x.count(0), 3);
        for (int what = 0; what < want.length; what++) {
            Check.due("'" + text + "': of(2, " + what + ")", x.of(2, what), want[what]);
        }
    }

    private static void newTask() {
        Document.sentence(Document.TEXT, "task, then run, shoot, blow, freeze or carry, at, a NUMBER (a MILE), need, a NUMBER (1 to 99), pay, a NUMBER"
            + " (0 to 99): a new TASK;");
        for (int sort = 0; sort < 5; sort++) {
            String name = SORTS[sort];
            int[][] bounds = {{0, 1, 0}, {30, 99, 99}, {1, 2, 1}, {29, 98, 98}};
            for (int[] b : bounds) {
                isTask("task " + name + " at " + b[0] + " need " + b[1] + " pay " + b[2], sort, b[0], b[1], b[2]);
            }
            int at = 5 + name.length() + 4;
            fault("task " + name + " at 31 need 1 pay 1", at);
            fault("task " + name + " at 3 need 0 pay 1", at + 7);
            fault("task " + name + " at 3 need 100 pay 1", at + 7);
            fault("task " + name + " at 3 need 1 pay 100", at + 13);
            fault("task " + name + "s at 3 need 1 pay 1", 5);
            fault("task " + name.substring(1) + " at 3 need 1 pay 1", 5);
        }
        fault("task at 3 need 1 pay 1", 5);
        fault("task run 3 need 1 pay 1", 9);
        fault("task run at need 1 pay 1", 12);
        fault("task run at 3 pay 1", 14);
        fault("task run at 3 need pay 1", 19);
        fault("task run at 3 need 1 need 1", 21);
        fault("task run at 3 need 1 pay pay", 25);
        fault("task run at 3 need 1 pay 1 asleep", 27);
        fault("tasks run at 3 need 1 pay 1", 0);
    }

    private static void isTask(String text, int... want) {
        SixFellows x = two();
        Check.due("'" + text + "'", Check.tell(x, text), 1);
        Check.due("'" + text + "': one more", x.count(1), 1);
        for (int what = 0; what < want.length; what++) {
            Check.due("'" + text + "': taskOf(0, " + what + ")", x.taskOf(0, what), want[what]);
        }
    }

    private static void wakeAndSleep() {
        Document.sentence(Document.TEXT, "wake or sleep, a NUMBER (a FELLOW there by then): it is awake, or ASLEEP.");
        asleepBy("sleep 0", 0b01);
        asleepBy("sleep 1", 0b10);
        asleepBy("sleep 0; sleep 0; sleep 1", 0b11);
        asleepBy("sleep 0; wake 0", 0);
        asleepBy("wake 0; wake 1", 0);
        asleepBy("fellow at 1; sleep 2", 0b100);
        asleepBy("fellow at 1 asleep; wake 2", 0);
        fault("wake 2", 5);
        fault("sleep 2", 6);
        fault("sleep 2; fellow at 1", 6);
        fault("fellow at 1; wake 3", 18);
        fault("wake 999", 5);
        fault("wake", 4);
        fault("sleep wake", 6);
        fault("asleep 0", 0);
        fault(Roads::empty, "wake 0", 5);
        fault(Roads::empty, "sleep 0", 6);
        fault(Roads::full, "wake 7", 5);
        SixFellows seven = Roads.seven(0, 0);
        Check.due("the last of seven", Check.tell(seven, "sleep 6"), 1);
        Check.due("asleep", seven.now(3), 0b1000000);
    }

    private static void asleepBy(String text, int set) {
        SixFellows x = two();
        Check.holds("'" + text + "' stands", Check.tell(x, text) > 0);
        Check.due("'" + text + "': asleep", x.now(3), set);
    }

    private static void faultOfAToken() {
        Document.sentence(Document.TEXT, "FAULT: the place (from 0) of the first byte of the first TOKEN that can't stand there");
        fault("zzz", 0);
        fault("   zzz", 3);
        fault("zzz !", 0);
        fault("wake zzz zzz", 5);
        fault("wake 0; zzz; zzz", 8);
        fault("wake   31  !", 7);
        fault("fellow at 31 skill 0", 10);
    }

    private static void faultsOfTheirOwn() {
        Document.sentence(Document.TEXT, "(a NUMBER that may not be, another WORD, a byte that begins no TOKEN, the name of a KIND for an 8th, task for a"
            + " 9th: its own),");
        fault("fellow at 3 goes 4 skill 12345", 25);
        fault("fellow at 3 walks 4", 12);
        anotherLetter("fellow at 3 goes 4 skill 5 asleep");
        anotherLetter("task freeze at 3 need 1 pay 1");
        anotherLetter("sleep 0; wake 1; task run at 3 need 1 pay 1; runner at 3");
        fault("fellow at 3 ?", 12);
        fault("fellow at 3\u00ff", 11);
        fault("fellow at \u0080", 10);
        for (String kind : KINDS) {
            fault(Roads::full, "wake 0;  " + kind + " at 3", 9);
            fault(Roads::full, kind + " zzz", 0);
            fault(Roads::full, kind, 0);
            fault(() -> Check.road("fellow at 0;".repeat(6)), kind + " at 3; " + kind + " at 3", 13);
        }
        for (String sort : SORTS) {
            fault(Roads::full, " task " + sort + " at 3 need 1 pay 1", 1);
        }
        fault(Roads::full, "wake 0;task", 7);
        fault(Roads::full, "task zzz", 0);
        fault(() -> Check.road("task run at 0 need 1 pay 0;".repeat(7)), "task run at 3 need 1 pay 1; task run at 3 need 1 pay 1", 28);
        SixFellows seven = Check.road("fellow at 0;".repeat(7));
        Check.due("a task for seven", Check.tell(seven, "task run at 3 need 1 pay 1"), 1);
        SixFellows eight = Check.road("task run at 0 need 1 pay 0;".repeat(8));
        Check.due("a fellow for eight", Check.tell(eight, "fellow at 3"), 1);
    }

    /** A text that stands, but for each of its letters, one after the other: its word is another one then. */
    private static void anotherLetter(String text) {
        takes(text, text.split(";").length);
        int word = 0;
        for (int i = 0; i < text.length(); i++) {
            if (!Character.isLetter(text.charAt(i))) {
                word = i + 1;
            } else {
                fault(text.substring(0, i) + 'q' + text.substring(i + 1), word);
            }
        }
    }

    private static void faultAtTheEnd() {
        Document.sentence(Document.TEXT, "or how many bytes there are if it ends too early.");
        String[] early = {"", " ", "   ", "fellow", "fellow ", "fellow at", "fellow at  ", "fellow at 3 goes", "fellow at 3 goes 4 skill",
            "task", "task run", "task run at", "task run at 3", "task run at 3 need", "task run at 3 need 1", "task run at 3 need 1 pay", "wake",
            "sleep   ", "wake 0;", "wake 0; ", "wake 0; sleep"};
        for (String text : early) {
            fault(text, text.length());
        }
        fault("wake" + " ".repeat(116), 120);
    }
}

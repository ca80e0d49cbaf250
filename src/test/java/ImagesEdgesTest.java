import java.util.function.Supplier;

/** Promises 39 to 43, sentence by sentence, at their bounds. */
final class ImagesEdgesTest {
    public static void main(String[] args) {
        imageIsKept();
        undoToTheLatest();
        undoNone();
        tearImages();
        countOfAll();
        countBeyond();
        statusOfFindings();
        statusBeyond();
        Document.allPromisesAreNamed(39, 43);
        Check.end();
    }

    /** Changes all that an image keeps: none stays as it was. */
    private static void change(SixFellows x) {
        int fellows = x.count(0);
        for (int i = 0; i < fellows; i++) {
            setOther(x, i, 1, 14, 16);
            setOther(x, i, 2, 13, 17);
            setOther(x, i, 3, 7, 6);
            setOther(x, i, 4, 1, 0);
            x.turn(i, (x.of(i, 0) + 1) % 6);
        }
        x.done(0);
        x.task(3, 17, 18, 19);
        x.task(2, 14, 15, 16);
        x.fellow(5, 5);
        x.hours(1);
    }

    private static void setOther(SixFellows x, int fellow, int what, int value, int ifItWasSo) {
        if (x.set(fellow, what, value) == value) {
            x.set(fellow, what, ifItWasSo);
        }
    }

    private static SixFellows keptEmpty() {
        SixFellows x = new SixFellows();
        x.image();
        return x;
    }

    private static SixFellows keptFull() {
        SixFellows x = Roads.full();
        x.image();
        return x;
    }

    private static SixFellows keptLate() {
        SixFellows x = Roads.atHour(9998);
        x.fellow(1, 2);
        x.image();
        return x;
    }

    private static void imageIsKept() {
        Document.promise(39, "All that section 1 tells (THE TAPE not) is kept: 1.");
        Check.due("of nothing: image()", new SixFellows().image(), 1);
        Check.due("of some: image()", Roads.some().image(), 1);
        Check.due("of all: image()", Roads.full().image(), 1);
        isTakenBack("nothing", ImagesEdgesTest::keptEmpty);
        isTakenBack("all", ImagesEdgesTest::keptFull);
        isTakenBack("HOUR 9998", ImagesEdgesTest::keptLate);
        SixFellows x = new SixFellows();
        Check.feed(x, "abc");
        x.sheet(0, 8, 2);
        x.write(0, 0, 5);
        x.image();
        Check.feed(x, "defgh");
        x.write(0, 0, 6);
        x.sheet(1, 16, 3);
        x.undo();
        Check.due("the tape stays", x.count(2), 8);
        Check.due("a number of a sheet stays", x.write(0, 0, 6), 6);
        Check.due("a sheet stays", x.write(1, 2, 0), 0);
        x.wipe();
        x.sheet(0, 0, 0);
        x.undo();
        Check.due("the tape does not come back", x.count(2), 0);
        Check.due("nor does a sheet", x.write(0, 0, 0), Check.MISSING);
    }

    private static void isTakenBack(String what, Supplier<SixFellows> kept) {
        SixFellows asked = kept.get();
        int fellows = asked.count(0);
        change(asked);
        int findings = asked.status(-1);
        Check.due(what + ": undo()", asked.undo(), fellows);
        Check.due(what + ": no finding by it", asked.status(-1), findings);
        Check.due(what + ": HOUR", asked.now(0), kept.get().now(0));
        SixFellows twin = kept.get();
        twin.wipe();
        asked.wipe();
        Twins.isAsItsTwin(what + ": undo()", asked, twin);
    }

    private static void undoToTheLatest() {
        Document.promise(40, "It becomes what was kept latest (which stays): how many FELLOWS.");
        Check.due("nobody: undo()", keptEmpty().undo(), 0);
        Check.due("seven: undo()", keptFull().undo(), 7);
        SixFellows x = new SixFellows();
        x.image();
        x.fellow(1, 1);
        x.image();
        x.fellow(2, 2);
        for (int again = 0; again < 3; again++) {
            Check.due("the latest of two: undo()", x.undo(), 1);
            Check.due("with its one", x.of(0, 0), 1);
            x.set(0, 3, 9);
            x.fellow(3, 3);
            x.task(1, 1, 1, 1);
        }
        Check.due("once more: undo()", x.undo(), 1);
        Check.due("what was done behind undo() is gone", x.of(0, 3) * 10 + x.count(1), 30);
        SixFellows woken = Roads.seven(0, 0);
        woken.set(6, 4, 1);
        woken.image();
        Check.due("undo() to a sleeper", woken.undo() * 1000 + woken.now(3), 7064);
        SixFellows slept = new SixFellows();
        slept.image();
        slept.fellow(0, 0);
        slept.set(0, 4, 1);
        slept.undo();
        slept.fellow(0, 0);
        Check.due("a new one is awake, whoever slept there before", slept.now(3), 0);
    }

    private static void undoNone() {
        Document.promise(40, "NONE: nothing is kept.");
        Twins.refused(Check.NONE, Roads::empty, "undo()", x -> x.undo());
        Twins.refused(Check.NONE, Roads::late, "undo()", x -> x.undo());
        Twins.refused(Check.NONE, ImagesEdgesTest::torn, "behind tear(): undo()", x -> x.undo());
    }

    private static SixFellows torn() {
        SixFellows x = Roads.full();
        x.tear();
        return x;
    }

    private static void tearImages() {
        Document.promise(41, "Nothing is kept: 1 if something was, else 0.");
        Twins.answered(0, Roads::empty, "tear()", x -> x.tear());
        Twins.answered(0, ImagesEdgesTest::torn, "again: tear()", x -> x.tear());
        Check.due("an image of nothing is something: tear()", keptEmpty().tear(), 1);
        SixFellows x = new SixFellows();
        x.image();
        x.image();
        Check.due("two images: tear()", x.tear(), 1);
        Check.due("both are gone: tear()", x.tear(), 0);
        x.image();
        Check.due("undo() leaves it: undo()", x.undo(), 0);
        Check.due("tear()", x.tear(), 1);
        SixFellows full = Roads.full();
        full.tear();
        Check.due("what there is stays", full.count(0) * 10 + full.count(1), 78);
        full.image();
        full.fellow(0, 0);
        Check.due("kept anew: undo()", full.undo(), 7);
    }

    private static void countOfAll() {
        Document.promise(42, "0 FELLOWS, 1 TASKS, 2 bytes of THE TAPE, 3 SKILLS of all together, 4 PAY of all TASKS.");
        SixFellows x = Roads.seven(0, 0);
        for (int i = 0; i < 7; i++) {
            x.set(i, 3, 9);
        }
        for (int i = 0; i < 8; i++) {
            x.task(0, 30, 99, 99);
        }
        Check.feed(x, "z".repeat(120));
        int[] most = {7, 8, 120, 63, 792};
        int[] some = {4, 3, 42, 3 + 8 + 3 + 3, 66};
        for (int what = 0; what <= 4; what++) {
            int w = what;
            Check.due("the most: count(" + what + ")", x.count(what), most[what]);
            Twins.answered(0, Roads::empty, "nothing: count(" + what + ")", y -> y.count(w));
            Twins.answered(some[what], Roads::some, "some: count(" + what + ")", y -> y.count(w));
        }
        x.set(6, 4, 1);
        Check.due("those asleep, too: count(3)", x.count(3), 63);
    }

    private static void countBeyond() {
        Document.promise(42, "BEYOND: another what.");
        Twins.beyond(Roads::empty, "count(?)", 0, 4, (x, v) -> x.count(v));
        Twins.beyond(Roads::some, "count(?)", 0, 4, (x, v) -> x.count(v));
        Twins.beyond(Roads::full, "count(?)", 0, 4, (x, v) -> x.count(v));
    }

    private static void statusOfFindings() {
        Document.promise(43, "How many acts answered a finding ever (undo() takes none back): which -1: all, 0 to 6: BEYOND to SIZE.");
        SixFellows x = Roads.atHour(9999);
        for (int i = 0; i < 8; i++) {
            x.fellow(0, 0);
        }
        x.image();
        int[] want = new int[7];
        want[1] = 1;
        Twins.Ask[] acts = {y -> y.of(9, 9), y -> y.fellow(0, 0), y -> y.as(0, 5), y -> y.learn(), y -> y.hours(1), y -> y.read(0),
            y -> y.sheet(0, 8, -1)};
        for (int times = 1; times <= 7; times++) {
            for (int which = times - 1; which < 7; which++) {
                Check.due("an act", acts[which].of(x), Check.BEYOND - which);
                want[which]++;
            }
            statusIs(x, want);
            x.undo();
            statusIs(x, want);
        }
        Check.due("an answer below 0 is no finding: road()", x.road(), -1);
        Check.due("nor is this: tear()", x.tear(), 1);
        statusIs(x, want);
    }

    private static void statusIs(SixFellows x, int[] want) {
        int all = 0;
        for (int which = 0; which < 7; which++) {
            Check.due("status(" + which + ")", x.status(which), want[which]);
            all += want[which];
        }
        Check.due("status(-1)", x.status(-1), all);
    }

    private static void statusBeyond() {
        Document.promise(43, "BEYOND (counted from then on): another one.");
        Twins.beyond(Roads::empty, "status(?)", -1, 6, (x, v) -> x.status(v));
        Twins.beyond(Roads::some, "status(?)", -1, 6, (x, v) -> x.status(v));
        SixFellows x = new SixFellows();
        for (int i = 1; i <= 3; i++) {
            Check.due("status(7)", x.status(7), Check.BEYOND);
            Check.due("counted from then on: status(0)", x.status(0), i);
            Check.due("status(-1)", x.status(-1), i);
        }
    }
}

/** Promises 33 to 38, sentence by sentence, at their bounds. */
final class SheetsEdgesTest {
    private static final int[] BITS = {8, 16, 64};

    public static void main(String[] args) {
        sheetHasNumbers();
        sheetIsMissing();
        sheetBeyond();
        sheetSize();
        sheetTooLarge();
        writeANumber();
        writeBeyond();
        writeMissing();
        writeNoSuchNumber();
        copyNumbers();
        copyAsTheyWere();
        copyBeyond();
        copyMissing();
        copyKind();
        copyTooMany();
        laysGoals();
        laysLeavesOut();
        laysBeyond();
        laysMissing();
        bookOfHours();
        bookBeyond();
        bookMissing();
        readTellsTasks();
        readCountsSets();
        readBeyond();
        readMissing();
        Document.allPromisesAreNamed(33, 38);
        Check.end();
    }

    private static void sheetHasNumbers() {
        Document.promise(33, "A sheet has n numbers, all 0, of 8, 16 or 64 bits;");
        for (int s = 0; s < 4; s++) {
            for (int bits : BITS) {
                SixFellows x = new SixFellows();
                Check.due("of none", x.sheet(s, bits, 0), 0);
                Check.due("it is there, though empty", x.write(s, 0, 7), Check.BEYOND);
                Check.due("of 1", x.sheet(s, bits, 1), 1);
                Check.due("of 39", x.sheet(s, bits, 39), 39);
                Check.due("of 40", x.sheet(s, bits, 40), 40);
                for (int i = 0; i < 40; i++) {
                    Check.due("number " + i, x.write(s, i, -1), 0);
                }
                Check.due("of 40 again", x.sheet(s, bits, 40), 40);
                for (int i = 0; i < 40; i++) {
                    Check.due("number " + i + ", 0 again", x.write(s, i, -1), 0);
                }
                Check.due("of fewer", x.sheet(s, bits, 2), 2);
                Check.due("of 40 once more", x.sheet(s, bits, 40), 40);
                Check.due("the last, 0 again", x.write(s, 39, 1), 0);
                Check.due("one finding", x.status(-1), 1);
            }
        }
        SixFellows others = Roads.full();
        others.sheet(1, 64, 5);
        others.sheet(1, 16, 40);
        others.write(1, 0, 2);
        others.write(1, 39, -1);
        Twins.isAsItsTwin("sheet(1, ..), which changes no other,", others, Roads.full());
    }

    private static void sheetIsMissing() {
        Document.promise(33, "bits 0: it is MISSING: n (0 if it is MISSING).");
        int[] counts = {0, 1, 40};
        for (int s = 0; s < 4; s++) {
            for (int n : counts) {
                SixFellows x = Roads.full();
                Check.due("sheet(" + s + ", 0, " + n + ")", x.sheet(s, 0, n), 0);
                Check.due("it is missing", x.write(s, 0, 0), Check.MISSING);
                Check.due("again", x.sheet(s, 0, n), 0);
                Check.due("anew", x.sheet(s, 8, 40), 40);
                Check.due("with 0", x.write(s, 39, 0), 0);
            }
        }
        Twins.answered(0, Roads::some, "missing before: sheet(3, 0, 40)", x -> x.sheet(3, 0, 40));
    }

    private static void sheetBeyond() {
        Document.promise(33, "BEYOND: no such sheet, other bits.");
        Twins.beyond(Roads::empty, "sheet(?, 8, 1)", 0, 3, (x, v) -> x.sheet(v, 8, 1));
        Twins.beyond(Roads::full, "sheet(?, 0, 0)", 0, 3, (x, v) -> x.sheet(v, 0, 0));
        Twins.beyond(Roads::full, "sheet(?, 8, -1), asked ahead of SIZE", 0, 3, (x, v) -> x.sheet(v, 8, -1));
        int[] otherBits = {-1, 1, 4, 7, 9, 15, 17, 24, 32, 63, 65, -8, -16, -64, 128, 256, Integer.MIN_VALUE, Integer.MAX_VALUE};
        for (int bits : otherBits) {
            Twins.refused(Check.BEYOND, Roads::full, "sheet(0, " + bits + ", 1)", x -> x.sheet(0, bits, 1));
            Twins.refused(Check.BEYOND, Roads::full, "sheet(0, " + bits + ", -1), asked ahead of SIZE", x -> x.sheet(0, bits, -1));
        }
    }

    private static void sheetSize() {
        Document.promise(33, "SIZE: n is below 0 (also with bits 0).");
        int[] bitsOf = {0, 8, 16, 64};
        for (int bits : bitsOf) {
            Twins.refused(Check.SIZE, Roads::some, "sheet(0, " + bits + ", -1)", x -> x.sheet(0, bits, -1));
            Twins.refused(Check.SIZE, Roads::some, "missing: sheet(3, " + bits + ", -1)", x -> x.sheet(3, bits, -1));
            Twins.refused(Check.SIZE, Roads::full, "sheet(1, " + bits + ", min)", x -> x.sheet(1, bits, Integer.MIN_VALUE));
        }
    }

    private static void sheetTooLarge() {
        Document.promise(33, "BEYOND: n is above 40 (also with bits 0).");
        int[] bitsOf = {0, 8, 16, 64};
        for (int bits : bitsOf) {
            Twins.refused(Check.BEYOND, Roads::some, "sheet(0, " + bits + ", 41)", x -> x.sheet(0, bits, 41));
            Twins.refused(Check.BEYOND, Roads::some, "missing: sheet(3, " + bits + ", 41)", x -> x.sheet(3, bits, 41));
            Twins.refused(Check.BEYOND, Roads::full, "sheet(1, " + bits + ", max)", x -> x.sheet(1, bits, Integer.MAX_VALUE));
        }
    }

    private static void writeANumber() {
        Document.promise(34, "Number i of a sheet becomes v (its lowest bits): what it was.");
        long[][] cuts = {
            // v, in 8 bits, in 16 bits
            {0, 0, 0}, {1, 1, 1}, {-1, -1, -1}, {127, 127, 127}, {128, -128, 128}, {-128, -128, -128}, {-129, 127, -129}, {255, -1, 255},
            {256, 0, 256}, {257, 1, 257}, {32767, -1, 32767}, {32768, 0, -32768}, {-32768, 0, -32768}, {-32769, -1, 32767}, {65535, -1, -1},
            {65536, 0, 0}, {65793, 1, 257}, {Integer.MAX_VALUE, -1, -1}, {Integer.MIN_VALUE, 0, 0}, {0x1_0000_0007L, 7, 7},
            {Long.MAX_VALUE, -1, -1}, {Long.MIN_VALUE, 0, 0}, {Long.MIN_VALUE + 1, 1, 1}};
        SixFellows x = new SixFellows();
        x.sheet(0, 8, 1);
        x.sheet(1, 16, 40);
        x.sheet(3, 64, 40);
        for (long[] c : cuts) {
            x.write(0, 0, c[0]);
            x.write(1, 39, c[0]);
            x.write(3, 39, c[0]);
            Check.due("8 bits of " + c[0], x.write(0, 0, 0), c[1]);
            Check.due("16 bits of " + c[0], x.write(1, 39, 0), c[2]);
            Check.due("64 bits of " + c[0], x.write(3, 39, 0), c[0]);
        }
        for (int i = 0; i < 40; i++) {
            Check.due("each its own: " + i, x.write(1, i, 100 + i), 0);
        }
        for (int i = 0; i < 40; i++) {
            Check.due("what it was: " + i, x.write(1, i, 0), 100 + i);
        }
        Check.due("no findings", x.status(-1), 0);
    }

    private static void writeBeyond() {
        Document.promise(34, "BEYOND: no such sheet.");
        Twins.beyond(Roads::empty, "write(?, 0, 0)", 0, 3, (x, v) -> x.write(v, 0, 0));
        Twins.beyond(Roads::full, "write(?, 0, 9)", 0, 3, (x, v) -> x.write(v, 0, 9));
        Twins.beyond(Roads::full, "write(?, 40, 9)", 0, 3, (x, v) -> x.write(v, 40, 9));
    }

    private static void writeMissing() {
        Document.promise(34, "MISSING.");
        for (int s = 0; s < 4; s++) {
            int sheet = s;
            Twins.refused(Check.MISSING, Roads::empty, "write(" + s + ", 0, 1)", x -> x.write(sheet, 0, 1));
        }
        int[] numbers = {-1, 0, 39, 40, Integer.MIN_VALUE, Integer.MAX_VALUE};
        for (int i : numbers) {
            Twins.refused(Check.MISSING, Roads::some, "write(3, " + i + ", 1), asked ahead of the number", x -> x.write(3, i, 1));
        }
    }

    private static void writeNoSuchNumber() {
        Document.promise(34, "BEYOND: no such number.");
        int[] sizes = {3, 4, 2};
        for (int s = 0; s < 3; s++) {
            int sheet = s;
            Twins.beyond(Roads::some, "write(" + s + ", ?, 9)", 0, sizes[s] - 1, (x, v) -> x.write(sheet, v, 9));
            Twins.beyond(Roads::full, "of 40: write(" + s + ", ?, 9)", 0, 39, (x, v) -> x.write(sheet, v, 9));
        }
        Twins.beyond(Roads::full, "of none: write(3, ?, 9)", 0, -1, (x, v) -> x.write(3, v, 9));
        Twins.refused(Check.BEYOND, Roads::some, "write(0, 3, max)", x -> x.write(0, 3, Long.MAX_VALUE));
        Twins.refused(Check.BEYOND, Roads::some, "write(0, 3, min)", x -> x.write(0, 3, Long.MIN_VALUE));
        SixFellows x = Roads.full();
        x.sheet(0, 8, 5);
        Check.due("those of a larger sheet before: write(0, 5, 1)", x.write(0, 5, 1), Check.BEYOND);
    }

    /** Sheet 0 with 1, 2, .. 40, sheet 1 with -1, -2, .. -40, of as many bits; sheets 2 and 3 of none. */
    private static SixFellows rows(int bits) {
        SixFellows x = new SixFellows();
        x.sheet(0, bits, 40);
        x.sheet(1, bits, 40);
        x.sheet(2, bits, 0);
        x.sheet(3, bits, 0);
        for (int i = 0; i < 40; i++) {
            x.write(0, i, i + 1);
            x.write(1, i, -1 - i);
        }
        return x;
    }

    private static void copyNumbers() {
        Document.promise(35, "n numbers of a sheet from one on come to another one from one on");
        int[][] copies = {{0, 0, 40}, {0, 0, 1}, {39, 39, 1}, {0, 39, 1}, {39, 0, 1}, {0, 1, 39}, {1, 0, 39}, {10, 20, 20}, {0, 0, 0}, {40, 40, 0}};
        for (int bits : BITS) {
            for (int[] c : copies) {
                SixFellows x = rows(bits);
                String call = "copy(0, " + c[0] + ", 1, " + c[1] + ", " + c[2] + ")";
                Check.due(call, x.copy(0, c[0], 1, c[1], c[2]), c[2]);
                for (int i = 0; i < 40; i++) {
                    boolean came = i >= c[1] && i < c[1] + c[2];
                    Check.due(call + ": number " + i, x.write(1, i, 0), came ? i - c[1] + c[0] + 1 : -1 - i);
                    Check.due(call + ": what it came from, " + i, x.write(0, i, 0), i + 1);
                }
            }
            Check.due("an empty sheet to another: copy(2, 0, 3, 0, 0)", rows(bits).copy(2, 0, 3, 0, 0), 0);
            Check.due("an empty sheet to a full one: copy(2, 0, 0, 40, 0)", rows(bits).copy(2, 0, 0, 40, 0), 0);
        }
        SixFellows far = new SixFellows();
        far.sheet(0, 64, 1);
        far.sheet(3, 64, 1);
        far.write(0, 0, Long.MIN_VALUE);
        Check.due("from the first sheet to the last", far.copy(0, 0, 3, 0, 1), 1);
        Check.due("a number of 64 bits", far.write(3, 0, Long.MAX_VALUE), Long.MIN_VALUE);
        Check.due("and back", far.copy(3, 0, 0, 0, 1), 1);
        Check.due("a number of 64 bits", far.write(0, 0, 0), Long.MAX_VALUE);
    }

    private static void copyAsTheyWere() {
        Document.promise(35, "(as they all were): n.");
        int[][] copies = {{0, 1, 39}, {1, 0, 39}, {0, 2, 38}, {2, 0, 38}, {5, 7, 10}, {7, 5, 10}, {0, 0, 40}};
        for (int[] c : copies) {
            SixFellows x = rows(16);
            String call = "copy(0, " + c[0] + ", 0, " + c[1] + ", " + c[2] + ")";
            Check.due(call, x.copy(0, c[0], 0, c[1], c[2]), c[2]);
            for (int i = 0; i < 40; i++) {
                boolean came = i >= c[1] && i < c[1] + c[2];
                Check.due(call + ": number " + i, x.write(0, i, 0), came ? i - c[1] + c[0] + 1 : i + 1);
            }
        }
    }

    private static void copyBeyond() {
        Document.promise(35, "BEYOND: no such sheet (either).");
        Twins.beyond(() -> rows(8), "copy(?, 0, 1, 0, 1)", 0, 3, (x, v) -> x.copy(v, 0, 1, 0, 1));
        Twins.beyond(() -> rows(8), "copy(1, 0, ?, 0, 1)", 0, 3, (x, v) -> x.copy(1, 0, v, 0, 1));
        Twins.beyond(() -> rows(8), "copy(?, 0, ?, 0, 1)", 0, 3, (x, v) -> x.copy(v, 0, v, 0, 1));
        Twins.beyond(Roads::some, "copy(?, 0, 3, 0, 1), asked ahead of MISSING", 0, 3, (x, v) -> x.copy(v, 0, 3, 0, 1));
        Twins.beyond(Roads::some, "copy(3, 0, ?, 0, 1), asked ahead of MISSING", 0, 3, (x, v) -> x.copy(3, 0, v, 0, 1));
    }

    private static void copyMissing() {
        Document.promise(35, "MISSING: one is.");
        for (int other = 0; other < 3; other++) {
            int o = other;
            Twins.refused(Check.MISSING, Roads::some, "copy(3, 0, " + o + ", 0, 1)", x -> x.copy(3, 0, o, 0, 1));
            Twins.refused(Check.MISSING, Roads::some, "copy(" + o + ", 0, 3, 0, 1)", x -> x.copy(o, 0, 3, 0, 1));
            Twins.refused(Check.MISSING, Roads::some, "copy(" + o + ", -1, 3, -1, -1), asked ahead of KIND and numbers",
                x -> x.copy(o, -1, 3, -1, -1));
        }
        Twins.refused(Check.MISSING, Roads::some, "copy(3, 0, 3, 0, 0)", x -> x.copy(3, 0, 3, 0, 0));
        Twins.refused(Check.MISSING, Roads::empty, "copy(0, 0, 1, 0, 0)", x -> x.copy(0, 0, 1, 0, 0));
    }

    private static void copyKind() {
        Document.promise(35, "KIND: they are not of as many bits.");
        for (int s = 0; s < 3; s++) {
            for (int t = 0; t < 3; t++) {
                int from = s;
                int to = t;
                if (s != t) {
                    String call = "copy(" + s + ", .., " + t + ", ..) of ";
                    Twins.refused(Check.KIND, Roads::some, call + "1", x -> x.copy(from, 0, to, 0, 1));
                    Twins.refused(Check.KIND, Roads::full, call + "0", x -> x.copy(from, 0, to, 0, 0));
                    Twins.refused(Check.KIND, Roads::full, call + "-1, asked ahead of numbers", x -> x.copy(from, 0, to, 0, -1));
                    Twins.refused(Check.KIND, Roads::full, call + "41, asked ahead of numbers", x -> x.copy(from, -1, to, 99, 41));
                }
            }
        }
        Check.due("an empty one of 16 bits to one of 16: copy(3, 0, 1, 0, 0)", Roads.full().copy(3, 0, 1, 0, 0), 0);
    }

    private static void copyTooMany() {
        Document.promise(35, "BEYOND: one has not so many, or from, to or n is below 0.");
        int max = Integer.MAX_VALUE;
        int min = Integer.MIN_VALUE;
        int[][] wrong = {{-1, 0, 1}, {0, -1, 1}, {0, 0, -1}, {-1, 0, 0}, {0, -1, 0}, {41, 0, 0}, {0, 41, 0}, {0, 0, 41}, {1, 0, 40}, {0, 1, 40},
            {40, 0, 1}, {0, 40, 1}, {39, 0, 2}, {0, 39, 2}, {max, 0, 1}, {0, max, 1}, {0, 0, max}, {max, max, max}, {1, 1, max}, {max, 0, 0},
            {0, max, 0}, {min, 0, 1}, {0, min, 1}, {0, 0, min}, {min, min, min}, {-1, 1, 2}, {1, -1, 2}, {1, 1, -1}, {40, 40, -40}};
        for (int[] w : wrong) {
            String call = ", " + w[0] + ", .., " + w[1] + ", " + w[2] + ")";
            Twins.refused(Check.BEYOND, () -> rows(64), "copy(0" + call, x -> x.copy(0, w[0], 1, w[1], w[2]));
            Twins.refused(Check.BEYOND, () -> rows(64), "to itself: copy(0" + call, x -> x.copy(0, w[0], 0, w[1], w[2]));
        }
        Twins.refused(Check.BEYOND, () -> rows(8), "from an empty one: copy(2, 0, 0, 0, 1)", x -> x.copy(2, 0, 0, 0, 1));
        Twins.refused(Check.BEYOND, () -> rows(8), "to an empty one: copy(0, 0, 2, 0, 1)", x -> x.copy(0, 0, 2, 0, 1));
        Twins.refused(Check.BEYOND, () -> rows(8), "of an empty one: copy(2, 1, 3, 0, 0)", x -> x.copy(2, 1, 3, 0, 0));
    }

    private static SixFellows walkers(int bits, long... numbers) {
        SixFellows x = Roads.seven(0, 15);
        x.sheet(2, bits, numbers.length);
        for (int i = 0; i < numbers.length; i++) {
            x.write(2, i, numbers[i]);
        }
        return x;
    }

    private static void goalsAre(SixFellows x, int... goals) {
        for (int i = 0; i < goals.length; i++) {
            Check.due("goal of " + i, x.of(i, 2), goals[i]);
            Check.due("none goes by it: " + i, x.of(i, 1), 15);
        }
    }

    private static void laysGoals() {
        Document.promise(36, "Numbers of a sheet become GOALS of FELLOWS 0, 1, ..");
        for (int bits : BITS) {
            SixFellows x = walkers(bits, 0, 1, 29, 30, 15, 7, 8);
            Check.due("seven for seven: lays(2)", x.lays(2), 7);
            goalsAre(x, 0, 1, 29, 30, 15, 7, 8);
            SixFellows fewer = walkers(bits, 30);
            Check.due("one for seven: lays(2)", fewer.lays(2), 1);
            goalsAre(fewer, 30, 15, 15, 15, 15, 15, 15);
            SixFellows none = walkers(bits);
            Check.due("none for seven: lays(2)", none.lays(2), 0);
            goalsAre(none, 15, 15, 15, 15, 15, 15, 15);
        }
        SixFellows asleep = walkers(8, 3, 4);
        asleep.set(1, 4, 1);
        Check.due("one asleep, too: lays(2)", asleep.lays(2), 2);
        goalsAre(asleep, 3, 4, 15);
        Check.due("the sheet stays", asleep.write(2, 1, 0), 4);
    }

    private static void laysLeavesOut() {
        Document.promise(36, "(those that are no MILE, or stand for none, are left out): how many came.");
        SixFellows x = walkers(64, -1, 31, Long.MIN_VALUE, Long.MAX_VALUE, 0x1_0000_0005L, 30, 0);
        Check.due("lays(2)", x.lays(2), 2);
        goalsAre(x, 15, 15, 15, 15, 15, 30, 0);
        SixFellows cut = walkers(8, 256 + 30, 256 + 31, -1, -256, 128, 255, 512 + 1);
        Check.due("cut to 8 bits: lays(2)", cut.lays(2), 3);
        goalsAre(cut, 30, 15, 15, 0, 15, 15, 1);
        SixFellows cut16 = walkers(16, 65536 + 30, 65536 + 31, 256 + 30);
        Check.due("cut to 16 bits: lays(2)", cut16.lays(2), 1);
        goalsAre(cut16, 30, 15, 15);
        SixFellows more = Roads.seven(0, 15);
        more.sheet(2, 8, 40);
        Check.due("40 for seven: lays(2)", more.lays(2), 7);
        goalsAre(more, 0, 0, 0, 0, 0, 0, 0);
        SixFellows nobody = new SixFellows();
        nobody.sheet(2, 8, 40);
        Check.due("40 for nobody: lays(2)", nobody.lays(2), 0);
        Check.due("no findings", x.status(-1) + cut.status(-1) + more.status(-1) + nobody.status(-1), 0);
    }

    private static void laysBeyond() {
        Document.promise(36, "BEYOND: no such sheet.");
        Twins.beyond(Roads::empty, "lays(?)", 0, 3, (x, v) -> x.lays(v));
        Twins.beyond(Roads::full, "lays(?)", 0, 3, (x, v) -> x.lays(v));
    }

    private static void laysMissing() {
        Document.promise(36, "MISSING.");
        Twins.refused(Check.MISSING, Roads::some, "lays(3)", x -> x.lays(3));
        for (int s = 0; s < 4; s++) {
            int sheet = s;
            Twins.refused(Check.MISSING, Roads::empty, "lays(" + s + ")", x -> x.lays(sheet));
        }
    }

    private static SixFellows walker() {
        return Check.road("fellow at 0 goes 30; task run at 0 need 1 pay 99; task run at 0 need 1 pay 99; task run at 29 need 1 pay 58;"
            + " task run at 30 need 1 pay 99; task run at 30 need 1 pay 29; task carry at 30 need 1 pay 0");
    }

    private static void bookOfHours() {
        Document.promise(37, "A book: what is EARNED ON 0, 1, 2, .. HOURS comes to a sheet, as many as it has numbers: how many.");
        for (int bits : BITS) {
            SixFellows x = walker();
            x.sheet(3, bits, 40);
            Check.due("of 40: book(3)", x.book(3), 40);
            int at0 = bits == 8 ? 198 - 256 : 198;
            int at30 = bits == 8 ? 128 - 256 : 128;
            for (int n = 0; n < 40; n++) {
                Check.due(bits + " bits, on " + n + " hours", x.write(3, n, 5), n == 0 ? at0 : n < 29 ? 0 : n == 29 ? 58 : at30);
            }
            x.sheet(3, bits, 0);
            Check.due("of none: book(3)", x.book(3), 0);
            x.sheet(3, bits, 1);
            Check.due("of 1: book(3)", x.book(3), 1);
            Check.due("now", x.write(3, 0, 0), at0);
            Check.due("nobody goes by it", x.of(0, 1), 0);
            Check.due("nor does the hour", x.now(0), 0);
        }
        SixFellows most = Roads.eight();
        most.sheet(0, 8, 2);
        most.sheet(1, 16, 2);
        most.book(0);
        most.book(1);
        Check.due("792 in 8 bits", most.write(0, 1, 0), 24);
        Check.due("792 in 16 bits", most.write(1, 1, 0), 792);
        SixFellows nobody = new SixFellows();
        nobody.sheet(0, 8, 40);
        nobody.write(0, 39, 7);
        Check.due("nobody: book(0)", nobody.book(0), 40);
        Check.due("what was there is gone", nobody.write(0, 39, 7), 0);
        SixFellows late = Roads.late();
        late.sheet(0, 8, 6);
        Check.due("at 9999 they go on all the same: book(0)", late.book(0), 6);
        Check.due("on 4", late.write(0, 4, 0), 8);
        Check.due("on 5", late.write(0, 5, 0), 0);
        Check.due("no findings", late.status(-1), 0);
    }

    private static void bookBeyond() {
        Document.promise(37, "BEYOND: no such sheet.");
        Twins.beyond(Roads::empty, "book(?)", 0, 3, (x, v) -> x.book(v));
        Twins.beyond(Roads::full, "book(?)", 0, 3, (x, v) -> x.book(v));
    }

    private static void bookMissing() {
        Document.promise(37, "MISSING.");
        Twins.refused(Check.MISSING, Roads::some, "book(3)", x -> x.book(3));
        for (int s = 0; s < 4; s++) {
            int sheet = s;
            Twins.refused(Check.MISSING, Roads::empty, "book(" + s + ")", x -> x.book(sheet));
        }
    }

    /** One fellow and eight tasks that it meets, or not, all but the last of them. */
    private static SixFellows told(int bits, int size, long number) {
        SixFellows x = Roads.eight();
        x.done(7);
        x.task(4, 0, 7, 0);
        x.sheet(1, bits, size);
        for (int i = 0; i < size; i++) {
            x.write(1, i, number);
        }
        return x;
    }

    private static SixFellows toldButLast(int bits, int size, long number, long last) {
        SixFellows x = told(bits, size, number);
        x.write(1, 7, last);
        return x;
    }

    private static void readTellsTasks() {
        Document.promise(38, "THE READER, who was asleep: numbers of a sheet tell, for TASKS 0, 1, .., whether they are MET (0: not; all others: so;"
            + " those beyond all TASKS count nothing):");
        for (int bits : BITS) {
            Twins.answered(1, () -> told(bits, 8, 0), "none is met, all asleep: read(1)", x -> x.read(1));
            Twins.answered(0, () -> told(bits, 8, 1), "all eight can't be: read(1)", x -> x.read(1));
            Twins.answered(1, () -> told(bits, 7, 1), "seven are told, so: read(1)", x -> x.read(1));
            Twins.answered(1, () -> told(bits, 7, -1), "-1 is so: read(1)", x -> x.read(1));
            Twins.answered(1, () -> toldButLast(bits, 8, 127, 0), "all but the last: read(1)", x -> x.read(1));
            Twins.answered(1, () -> toldButLast(bits, 40, 1, 0), "those beyond count nothing, so: read(1)", x -> x.read(1));
            Twins.answered(1, () -> told(bits, 40, 0), "those beyond count nothing, not: read(1)", x -> x.read(1));
            Twins.answered(2, () -> told(bits, 0, 0), "nothing is told: read(1)", x -> x.read(1));
        }
        Twins.answered(1, () -> toldButLast(8, 8, 256, 256), "256 in 8 bits is 0: read(1)", x -> x.read(1));
        Twins.answered(1, () -> toldButLast(8, 8, 257, 256), "257 in 8 bits is not: read(1)", x -> x.read(1));
        Twins.answered(1, () -> toldButLast(16, 8, 256, 65536), "65536 in 16 bits is 0, 256 is not: read(1)", x -> x.read(1));
        Twins.answered(1, () -> toldButLast(64, 8, 1L << 32, 0), "2 to the 32nd in 64 bits is not 0: read(1)", x -> x.read(1));
        Twins.answered(1, () -> toldButLast(64, 8, Long.MIN_VALUE, 0), "the least in 64 bits is not 0: read(1)", x -> x.read(1));
        Twins.answered(1, () -> toldButLast(8, 8, 1, Long.MIN_VALUE), "the least in 8 bits is 0: read(1)", x -> x.read(1));
    }

    private static void readCountsSets() {
        Document.promise(38, "how many sets of FELLOWS there are such that, these being asleep and all others awake, it is just so.");
        SixFellows nobody = new SixFellows();
        nobody.sheet(0, 8, 40);
        Check.due("nobody, no task: read(0)", nobody.read(0), 1);
        nobody.task(4, 0, 1, 1);
        Check.due("nobody, not met: read(0)", nobody.read(0), 1);
        nobody.write(0, 0, 1);
        Check.due("nobody, met: read(0)", nobody.read(0), 0);
        SixFellows seven = Roads.seven(0, 0);
        seven.sheet(0, 8, 0);
        Check.due("seven, nothing is told: read(0)", seven.read(0), 128);
        seven.sheet(0, 8, 1);
        Check.due("seven, no task: read(0)", seven.read(0), 128);
        seven.task(4, 0, 42, 1);
        Check.due("not met, unless all are awake: read(0)", seven.read(0), 127);
        seven.write(0, 0, 1);
        Check.due("met, if all are awake: read(0)", seven.read(0), 1);
        for (int i = 0; i < 7; i++) {
            seven.set(i, 4, 1);
        }
        Check.due("who is asleep now does not matter: read(0)", seven.read(0), 1);
        Check.due("they stay so", seven.now(3), 127);
        SixFellows spoilt = Check.road("hunter at 0; blower at 0; fellow at 30; task shoot at 0 need 18 pay 0; task blow at 0 need 21 pay 0");
        spoilt.sheet(0, 8, 2);
        int[] counts = {2, 2, 4, 0};
        for (int met = 0; met < 4; met++) {
            spoilt.write(0, 0, met & 1);
            spoilt.write(0, 1, met >> 1);
            Check.due("a hunter spoilt, " + met + ": read(0)", spoilt.read(0), counts[met]);
        }
    }

    private static void readBeyond() {
        Document.promise(38, "BEYOND: no such sheet.");
        Twins.beyond(Roads::empty, "read(?)", 0, 3, (x, v) -> x.read(v));
        Twins.beyond(Roads::full, "read(?)", 0, 3, (x, v) -> x.read(v));
    }

    private static void readMissing() {
        Document.promise(38, "MISSING.");
        Twins.refused(Check.MISSING, Roads::some, "read(3)", x -> x.read(3));
        for (int s = 0; s < 4; s++) {
            int sheet = s;
            Twins.refused(Check.MISSING, Roads::empty, "read(" + s + ")", x -> x.read(sheet));
        }
    }
}

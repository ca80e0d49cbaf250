/** Promises 33 to 38. */
final class SheetsTest {
    public static void main(String[] args) {
        sheet();
        write();
        writeBits();
        copy();
        copyBeyond();
        copyOfItself();
        lays();
        book();
        read();
        readBySleep();
        missingOnes();
        Check.end();
    }

    private static void sheet() {
        SixFellows x = new SixFellows();
        Check.due("sheet(0, 8, 0)", x.sheet(0, 8, 0), 0);
        Check.due("it is there", x.write(0, 0, 1), Check.BEYOND);
        Check.due("sheet(1, 16, 40)", x.sheet(1, 16, 40), 40);
        Check.due("sheet(3, 64, 7)", x.sheet(3, 64, 7), 7);
        x.write(3, 6, 5);
        Check.due("sheet(3, 64, 7) again", x.sheet(3, 64, 7), 7);
        Check.due("all 0", x.write(3, 6, 5), 0);
        Check.due("sheet(3, 64, 3)", x.sheet(3, 64, 3), 3);
        Check.due("sheet(3, 64, 7) once more", x.sheet(3, 64, 7), 7);
        Check.due("all 0 still", x.write(3, 6, 5), 0);
        int[][] beyond = {{-1, 8, 1}, {4, 8, 1}, {0, 1, 1}, {0, 32, 1}, {0, -8, 1}, {0, 7, -1}, {4, 8, -1}, {0, 8, 41}, {0, 0, 41}};
        for (int[] b : beyond) {
            Check.due("sheet(" + b[0] + ", " + b[1] + ", " + b[2] + ")", x.sheet(b[0], b[1], b[2]), Check.BEYOND);
        }
        Check.due("sheet(3, 64, -1)", x.sheet(3, 64, -1), Check.SIZE);
        Check.due("sheet(3, 0, -1)", x.sheet(3, 0, -1), Check.SIZE);
        Check.due("sheet(3, 0, min)", x.sheet(3, 0, Integer.MIN_VALUE), Check.SIZE);
        Check.due("a finding changes nothing", x.write(3, 6, 5), 5);
        Check.due("sheet(3, 0, 40)", x.sheet(3, 0, 40), 0);
        Check.due("it is missing", x.write(3, 0, 1), Check.MISSING);
        Check.due("sheet(2, 0, 0): missing before", x.sheet(2, 0, 0), 0);
        Check.due("SIZE is counted", x.status(6), 3);
        Check.due("BEYOND is counted", x.status(0), beyond.length + 1);
    }

    private static void write() {
        SixFellows x = new SixFellows();
        x.sheet(1, 64, 3);
        Check.due("write", x.write(1, 2, Long.MIN_VALUE), 0);
        Check.due("write again", x.write(1, 2, 4), Long.MIN_VALUE);
        Check.due("the others stay", x.write(1, 1, 9), 0);
        Check.due("it stays", x.write(1, 2, 4), 4);
        Check.due("write(-1, ..)", x.write(-1, 0, 0), Check.BEYOND);
        Check.due("write(4, ..)", x.write(4, 0, 0), Check.BEYOND);
        Check.due("MISSING is asked ahead of the number", x.write(0, -1, 0), Check.MISSING);
        Check.due("number -1", x.write(1, -1, 0), Check.BEYOND);
        Check.due("number 3", x.write(1, 3, 0), Check.BEYOND);
        Check.due("number 40", x.write(1, 40, 0), Check.BEYOND);
        Check.due("number max", x.write(1, Integer.MAX_VALUE, 0), Check.BEYOND);
        Check.due("BEYOND is counted", x.status(0), 6);
        Check.due("MISSING is counted", x.status(5), 1);
    }

    private static void writeBits() {
        SixFellows x = new SixFellows();
        x.sheet(0, 8, 1);
        x.sheet(1, 16, 1);
        x.sheet(2, 64, 1);
        long[] values = {127, 128, -1, 255, 256, 32767, 32768, 65535, 65536, -129, 0x1_0000_0005L, Long.MAX_VALUE};
        for (long v : values) {
            x.write(0, 0, v);
            Check.due("8 bits of " + v, x.write(0, 0, 0), (byte) v);
            x.write(1, 0, v);
            Check.due("16 bits of " + v, x.write(1, 0, 0), (short) v);
            x.write(2, 0, v);
            Check.due("64 bits of " + v, x.write(2, 0, 0), v);
        }
    }

    private static SixFellows rows() {
        SixFellows x = new SixFellows();
        x.sheet(0, 16, 5);
        x.sheet(1, 16, 4);
        x.sheet(2, 8, 5);
        for (int i = 0; i < 5; i++) {
            x.write(0, i, 10 + i);
            x.write(1, i, 20 + i);
        }
        return x;
    }

    private static void isRow(SixFellows x, int s, long... want) {
        for (int i = 0; i < want.length; i++) {
            Check.due("number " + i + " of sheet " + s, x.write(s, i, want[i]), want[i]);
        }
    }

    private static void copy() {
        SixFellows x = rows();
        Check.due("copy(0, 1, 1, 2, 2)", x.copy(0, 1, 1, 2, 2), 2);
        isRow(x, 1, 20, 21, 11, 12);
        isRow(x, 0, 10, 11, 12, 13, 14);
        Check.due("copy of 4", x.copy(0, 1, 1, 0, 4), 4);
        isRow(x, 1, 11, 12, 13, 14);
        Check.due("copy of none", x.copy(0, 5, 1, 4, 0), 0);
        isRow(x, 1, 11, 12, 13, 14);
    }

    private static void copyBeyond() {
        SixFellows x = rows();
        int was = x.status(0);
        int[][] beyond = {{-1, 0, 1, 0, 1}, {4, 0, 1, 0, 1}, {0, 0, -1, 0, 1}, {0, 0, 4, 0, 1}, {4, 0, 3, 0, 1}, {3, 0, 4, 0, 1},
            {0, -1, 1, 0, 1}, {0, 0, 1, -1, 1}, {0, 0, 1, 0, -1}, {0, 0, 1, 0, 5}, {0, 2, 1, 0, 4}, {0, 6, 1, 0, 0}, {0, 0, 1, 5, 0},
            {0, 0, 1, 1, 4}, {0, Integer.MAX_VALUE, 1, 0, 1}, {0, 0, 1, Integer.MAX_VALUE, 1}, {0, 1, 1, 1, Integer.MAX_VALUE},
            {0, Integer.MIN_VALUE, 1, 0, Integer.MIN_VALUE}};
        for (int[] b : beyond) {
            Check.due("a copy beyond", x.copy(b[0], b[1], b[2], b[3], b[4]), Check.BEYOND);
        }
        Check.due("MISSING: the first", x.copy(3, 0, 1, 0, 1), Check.MISSING);
        Check.due("MISSING: the second", x.copy(1, 0, 3, 0, 1), Check.MISSING);
        Check.due("MISSING is asked ahead of KIND and numbers", x.copy(2, -1, 3, -1, -1), Check.MISSING);
        Check.due("KIND", x.copy(0, 0, 2, 0, 1), Check.KIND);
        Check.due("KIND of none", x.copy(2, 0, 0, 0, 0), Check.KIND);
        Check.due("KIND is asked ahead of numbers", x.copy(0, -1, 2, 99, 7), Check.KIND);
        isRow(x, 0, 10, 11, 12, 13, 14);
        isRow(x, 1, 20, 21, 22, 23);
        isRow(x, 2, 0, 0, 0, 0, 0);
        Check.due("BEYOND is counted", x.status(0) - was, beyond.length);
        Check.due("MISSING is counted", x.status(5), 3);
        Check.due("KIND is counted", x.status(2), 3);
    }

    private static void copyOfItself() {
        SixFellows x = rows();
        Check.due("to behind", x.copy(0, 0, 0, 1, 4), 4);
        isRow(x, 0, 10, 10, 11, 12, 13);
        Check.due("to before", x.copy(0, 1, 0, 0, 4), 4);
        isRow(x, 0, 10, 11, 12, 13, 13);
    }

    private static void lays() {
        SixFellows x = Check.road("fellow at 1; fellow at 2; fellow at 3; fellow at 4");
        x.sheet(0, 64, 6);
        long[] goals = {30, -1, 31, 0, 5, 6};
        for (int i = 0; i < 6; i++) {
            x.write(0, i, goals[i]);
        }
        Check.due("lays(0)", x.lays(0), 2);
        int[] want = {30, 2, 3, 0};
        for (int i = 0; i < 4; i++) {
            Check.due("goal of " + i, x.of(i, 2), want[i]);
            Check.due("mile of " + i, x.of(i, 1), i + 1);
        }
        x.sheet(0, 64, 2);
        x.write(0, 0, 0x1_0000_0007L);
        x.write(0, 1, 8);
        Check.due("no mile, though its low bits are", x.lays(0), 1);
        Check.due("left out", x.of(0, 2), 30);
        Check.due("not left out", x.of(1, 2), 8);
        Check.due("no more than the sheet has", x.of(2, 2), 3);
        Check.due("for none", new SixFellows().lays(0), Check.MISSING);
    }

    private static void book() {
        SixFellows x = Check.road("fellow at 0 goes 30; task carry at 5 need 4 pay 99; task run at 3 need 1 pay 99; task run at 30 need 1 pay 9");
        x.sheet(1, 64, 40);
        Check.due("book(1)", x.book(1), 40);
        for (int n = 0; n < 40; n++) {
            long want = (n >= 3 && n <= 7 ? 99 : 0) + (n == 3 ? 99 : 0) + (n >= 30 ? 9 : 0);
            Check.due("on " + n + " hours", x.write(1, n, 0), want);
        }
        x.sheet(1, 8, 5);
        Check.due("book of 5", x.book(1), 5);
        Check.due("its lowest bits", x.write(1, 3, 0), (byte) 198);
        Check.due("the next", x.write(1, 4, 0), 99);
        Check.due("nothing changes", x.of(0, 1) + x.now(0), 0);
        x.sheet(1, 16, 0);
        Check.due("book of none", x.book(1), 0);
    }

    private static void read() {
        SixFellows x = Check.road("fellow at 0; fellow at 0; fellow at 0; task carry at 0 need 6 pay 0;"
            + " task carry at 0 need 12 pay 0; task run at 0 need 3 pay 0");
        x.sheet(0, 8, 0);
        Check.due("nothing is told", x.read(0), 8);
        x.sheet(0, 8, 1);
        Check.due("the first not: all asleep", x.read(0), 1);
        x.write(0, 0, -1);
        Check.due("the first so", x.read(0), 7);
        x.sheet(0, 8, 2);
        x.write(0, 0, 5);
        Check.due("the first so, the second not", x.read(0), 3);
        x.sheet(0, 8, 3);
        x.write(0, 0, 1);
        x.write(0, 1, 1);
        Check.due("but the third", x.read(0), 3);
        x.write(0, 2, 1);
        Check.due("all", x.read(0), 1);
        x.sheet(0, 8, 40);
        x.write(0, 0, 1);
        x.write(0, 1, 1);
        x.write(0, 2, 1);
        Check.due("those beyond count nothing: 0", x.read(0), 1);
        for (int i = 3; i < 40; i++) {
            x.write(0, i, 1);
        }
        Check.due("those beyond count nothing: 1", x.read(0), 1);
        x.write(0, 0, 0);
        Check.due("none is so", x.read(0), 0);
        x.sheet(0, 8, 1);
        x.write(0, 0, 256);
        Check.due("cut to 0", x.read(0), 1);
    }

    private static void readBySleep() {
        SixFellows x = Check.road("hunter at 0 asleep; blower at 0 asleep; task shoot at 0 need 18 pay 0; task blow at 0 need 21 pay 0");
        x.sheet(3, 16, 2);
        x.write(3, 0, 1);
        Check.due("the hunter awake, the blower asleep", x.read(3), 1);
        x.write(3, 1, 1);
        Check.due("both can't be", x.read(3), 0);
        x.write(3, 0, 0);
        Check.due("the blower awake, whatever the hunter", x.read(3), 2);
        Check.due("nothing changes", x.now(3), 0b11);
        SixFellows nobody = new SixFellows();
        nobody.sheet(0, 8, 9);
        Check.due("nobody, no tasks", nobody.read(0), 1);
    }

    private static void missingOnes() {
        SixFellows x = new SixFellows();
        x.sheet(2, 8, 3);
        x.sheet(2, 0, 3);
        int[] beyond = {-1, 4, Integer.MIN_VALUE, Integer.MAX_VALUE};
        for (int s : beyond) {
            Check.due("lays(" + s + ")", x.lays(s), Check.BEYOND);
            Check.due("book(" + s + ")", x.book(s), Check.BEYOND);
            Check.due("read(" + s + ")", x.read(s), Check.BEYOND);
        }
        for (int s = 0; s < 4; s++) {
            Check.due("lays(" + s + ")", x.lays(s), Check.MISSING);
            Check.due("book(" + s + ")", x.book(s), Check.MISSING);
            Check.due("read(" + s + ")", x.read(s), Check.MISSING);
        }
        Check.due("BEYOND is counted", x.status(0), 12);
        Check.due("MISSING is counted", x.status(5), 12);
    }
}

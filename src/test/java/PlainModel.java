import java.math.BigInteger;
import java.nio.charset.StandardCharsets;
import java.util.ArrayList;
import java.util.Arrays;
import java.util.HashMap;
import java.util.List;
import java.util.Map;
import java.util.regex.Matcher;
import java.util.regex.Pattern;

/**
 * The document told once more, as differently as can be: kinds are classes, what-ifs are deep copies, hours go one by
 * one, shares go through all orders, findings are thrown. Slow, and only for the tests.
 */
final class PlainModel {
    private static final class Finding extends RuntimeException {
        final int code;

        Finding(int code) {
            super(null, null, false, false);
            this.code = code;
        }
    }

    private static final class Fault extends RuntimeException {
        final int place;

        Fault(int place) {
            super(null, null, false, false);
            this.place = place;
        }
    }

    private static class F {
        int at;
        int goal;
        int skill = 3;
        boolean asleep;

        int does(int sort) {
            return sort == 4 ? 2 * skill : 1;
        }

        boolean spoiltBy(F other) {
            return false;
        }

        int pace() {
            return 1;
        }
    }

    private static class Runner extends F {
        @Override int does(int sort) {
            return sort == 0 ? 5 * skill : super.does(sort);
        }

        @Override boolean spoiltBy(F other) {
            return other instanceof Hatted;
        }

        @Override int pace() {
            return 3;
        }
    }

    private static class Hunter extends F {
        @Override int does(int sort) {
            return sort == 1 ? 6 * skill : super.does(sort);
        }

        @Override boolean spoiltBy(F other) {
            return other instanceof Blower;
        }
    }

    private static class Blower extends F {
        @Override int does(int sort) {
            return sort == 2 ? 7 * skill : super.does(sort);
        }
    }

    private static class Legged extends Runner {
        @Override int does(int sort) {
            return sort == 0 ? 2 * super.does(sort) : sort == 4 ? 0 : super.does(sort);
        }

        @Override int pace() {
            return 2 * super.pace();
        }
    }

    private static class Hatted extends Blower {
        @Override int does(int sort) {
            return sort == 3 ? 8 * skill : sort == 2 ? super.does(sort) / 2 : super.does(sort);
        }
    }

    private static final List<Class<?>> KINDS =
        List.of(F.class, Runner.class, Hunter.class, Blower.class, Legged.class, Hatted.class);
    private static final List<String> KIND_NAMES = List.of("fellow", "runner", "hunter", "blower", "legged", "hatted");
    private static final List<String> SORT_NAMES = List.of("run", "shoot", "blow", "freeze", "carry");

    private static F make(int kind) {
        switch (kind) {
            case 0: return new F();
            case 1: return new Runner();
            case 2: return new Hunter();
            case 3: return new Blower();
            case 4: return new Legged();
            default: return new Hatted();
        }
    }

    private static F turned(F f, int kind) {
        F t = make(kind);
        t.at = f.at;
        t.goal = f.goal;
        t.skill = f.skill;
        t.asleep = f.asleep;
        return t;
    }

    private static int kindOf(F f) {
        return KINDS.indexOf(f.getClass());
    }

    private static final class Way {
        int hour = 0;
        List<F> fellows = new ArrayList<>();
        List<int[]> tasks = new ArrayList<>();

        Way again() {
            Way w = new Way();
            w.hour = hour;
            for (F f : fellows) {
                w.fellows.add(turned(f, kindOf(f)));
            }
            for (int[] t : tasks) {
                w.tasks.add(t.clone());
            }
            return w;
        }

        boolean spoilt(F f) {
            return fellows.stream().anyMatch(o -> o != f && !o.asleep && Math.abs(o.at - f.at) <= 2 && f.spoiltBy(o));
        }

        int helps(F f, int[] task) {
            if (f.asleep) {
                return 0;
            }
            int d = f.does(task[0]);
            if (spoilt(f)) {
                d /= 2;
            }
            d -= Math.abs(f.at - task[1]);
            return d < 0 ? 0 : d;
        }

        int all(int[] task) {
            return fellows.stream().mapToInt(f -> helps(f, task)).sum();
        }

        boolean met(int[] task) {
            return all(task) >= task[2];
        }

        int metSet() {
            int set = 0;
            for (int i = 0; i < tasks.size(); i++) {
                set += met(tasks.get(i)) ? 1 << i : 0;
            }
            return set;
        }

        int earned() {
            return tasks.stream().filter(this::met).mapToInt(t -> t[3]).sum();
        }

        Way hourOn() {
            Way w = again();
            for (F f : w.fellows) {
                for (int step = 0; step < f.pace() && !f.asleep; step++) {
                    f.at += Integer.compare(f.goal, f.at);
                }
            }
            w.hour++;
            return w;
        }

        Way on(int n) {
            Way w = again();
            for (int i = 0; i < n; i++) {
                w = w.hourOn();
            }
            return w;
        }

        Way alone(int set) {
            Way w = again();
            for (int i = 0; i < fellows.size(); i++) {
                if ((set >> i & 1) == 0) {
                    w.fellows.get(i).asleep = true;
                }
            }
            return w;
        }

        int awakeSet() {
            int set = 0;
            for (int i = 0; i < fellows.size(); i++) {
                set += fellows.get(i).asleep ? 0 : 1 << i;
            }
            return set;
        }
    }

    private Way way = new Way();
    private Way kept = null;
    private byte[] tape = new byte[0];
    private final int[] bits = new int[4];
    private final long[][] sheets = new long[4][];
    private final int[] found = new int[7];

    private static Finding beyond() {
        return new Finding(Check.BEYOND);
    }

    private static void within(long v, long least, long most) {
        if (v < least || v > most) {
            throw beyond();
        }
    }

    private F f(long i) {
        within(i, 0, way.fellows.size() - 1);
        return way.fellows.get((int) i);
    }

    private int[] t(long i) {
        within(i, 0, way.tasks.size() - 1);
        return way.tasks.get((int) i);
    }

    private long[] sheet(long s) {
        within(s, 0, 3);
        if (sheets[(int) s] == null) {
            throw new Finding(Check.MISSING);
        }
        return sheets[(int) s];
    }

    private static long cut(long v, int bits) {
        return v << 64 - bits >> 64 - bits;
    }

    long answer(String call, long... a) {
        try {
            return act(call, a);
        } catch (Finding finding) {
            found[Check.BEYOND - finding.code]++;
            return finding.code;
        }
    }

    private long act(String call, long[] a) {
        switch (call) {
            case "fellow": return fellow(a[0], a[1]);
            case "of": return of(f(a[0]), a[1]);
            case "set": return set(f(a[0]), a[1], a[2]);
            case "turn": return turn(f(a[0]), a[1]);
            case "as": return as(f(a[0]), a[1]);
            case "does": f(a[0]); within(a[1], 0, 4); return f(a[0]).does((int) a[1]);
            case "task": return task(a);
            case "taskOf": return taskOf(t(a[0]), a[1]);
            case "helps": return way.helps(f(a[0]), t(a[1]));
            case "done": t(a[0]); return way.tasks.remove((int) a[0])[3];
            case "hours": return hours(a[0]);
            case "now": return now(a[0]);
            case "on": within(a[0], 0, 60); return way.on((int) a[0]).metSet();
            case "when": t(a[0]); return when((int) a[0]);
            case "best": return best();
            case "stand": f(a[0]); return stand((int) a[0]);
            case "kind": return kind(f(a[0]), (int) a[0]);
            case "awake": return awake();
            case "most": return way.alone(awake()).earned();
            case "fewest": t(a[0]); return Integer.bitCount(who((int) a[0]));
            case "who": t(a[0]); return who((int) a[0]);
            case "spoils": return spoils();
            case "learn": return learn();
            case "skill": return skill(f(a[0]), t(a[1]));
            case "missed": f(a[0]); return way.earned() - way.alone(~(1 << a[0])).earned();
            case "share": f(a[0]); return shares()[(int) a[0]];
            case "first": return first();
            case "sets": return sets(a[0]);
            case "feed": return feed((int) a[0], a[1]);
            case "wipe": return wipe();
            case "road": return road();
            case "sheet": return newSheet(a[0], a[1], a[2]);
            case "write": return write(sheet(a[0]), a);
            case "copy": return copy(a);
            case "lays": return lays(sheet(a[0]));
            case "book": return book(sheet(a[0]), bits[(int) a[0]]);
            case "read": return read(sheet(a[0]));
            case "image": kept = way.again(); return 1;
            case "undo": return undo();
            case "tear": int was = kept == null ? 0 : 1; kept = null; return was;
            case "count": return count(a[0]);
            case "status": return status(a[0]);
            default: throw new IllegalStateException(call);
        }
    }

    private long fellow(long kind, long mile) {
        within(kind, 0, 5);
        within(mile, 0, 30);
        if (way.fellows.size() == 7) {
            throw new Finding(Check.FULL);
        }
        F f = make((int) kind);
        f.at = (int) mile;
        f.goal = (int) mile;
        way.fellows.add(f);
        return way.fellows.size() - 1;
    }

    private long of(F f, long what) {
        within(what, 0, 7);
        if (what == 7) {
            F walker = turned(f, kindOf(f));
            Way w = new Way();
            walker.asleep = false;
            w.fellows.add(walker);
            int hours = 0;
            while (w.fellows.get(0).at != walker.goal) {
                w = w.hourOn();
                hours++;
            }
            return hours;
        }
        return new int[] {kindOf(f), f.at, f.goal, f.skill, f.asleep ? 1 : 0, way.spoilt(f) ? 1 : 0, f.pace()}[(int) what];
    }

    private long set(F f, long what, long v) {
        within(what, 1, 4);
        within(v, what == 3 ? 1 : 0, what == 3 ? 9 : what == 4 ? 1 : 30);
        long was = of(f, what);
        if (what == 1) {
            f.at = (int) v;
        } else if (what == 2) {
            f.goal = (int) v;
        } else if (what == 3) {
            f.skill = (int) v;
        } else {
            f.asleep = v == 1;
        }
        return was;
    }

    private long turn(F f, long kind) {
        within(kind, 0, 5);
        way.fellows.set(way.fellows.indexOf(f), turned(f, (int) kind));
        return kindOf(f);
    }

    private long as(F f, long kind) {
        within(kind, 0, 5);
        if (!KINDS.get((int) kind).isInstance(f)) {
            throw new Finding(Check.KIND);
        }
        return f.skill;
    }

    private long task(long[] a) {
        within(a[0], 0, 4);
        within(a[1], 0, 30);
        within(a[2], 1, 99);
        within(a[3], 0, 99);
        if (way.tasks.size() == 8) {
            throw new Finding(Check.FULL);
        }
        way.tasks.add(new int[] {(int) a[0], (int) a[1], (int) a[2], (int) a[3]});
        return way.tasks.size() - 1;
    }

    private long taskOf(int[] task, long what) {
        within(what, 0, 6);
        if (what < 4) {
            return task[(int) what];
        }
        if (what < 6) {
            return what == 4 ? way.all(task) : way.met(task) ? 1 : 0;
        }
        int set = 0;
        for (F f : way.fellows) {
            set += way.helps(f, task) >= 1 ? 1 << way.fellows.indexOf(f) : 0;
        }
        return set;
    }

    private long hours(long n) {
        within(n, 1, 60);
        if (way.hour + n > 9999) {
            throw new Finding(Check.STATE);
        }
        way = way.on((int) n);
        return way.earned();
    }

    private long now(long what) {
        within(what, 0, 5);
        int spoilt = 0;
        for (F f : way.fellows) {
            spoilt += way.spoilt(f) ? 1 << way.fellows.indexOf(f) : 0;
        }
        int[] miles = way.fellows.stream().mapToInt(f -> f.at).sorted().toArray();
        int spread = miles.length == 0 ? 0 : miles[miles.length - 1] - miles[0];
        int asleep = (1 << way.fellows.size()) - 1 - way.awakeSet();
        return new int[] {way.hour, way.metSet(), way.earned(), asleep, spoilt, spread}[(int) what];
    }

    private long when(int task) {
        Way w = way;
        for (int n = 0; n <= 60; n++) {
            if (w.met(w.tasks.get(task))) {
                return n;
            }
            w = w.hourOn();
        }
        throw new Finding(Check.NONE);
    }

    private long best() {
        int[] earned = new int[61];
        Way w = way;
        for (int n = 0; n <= 60; n++) {
            earned[n] = w.earned();
            w = w.hourOn();
        }
        return lowestOfMost(earned);
    }

    private long stand(int fellow) {
        int[] earned = new int[31];
        for (int mile = 0; mile <= 30; mile++) {
            Way w = way.again();
            w.fellows.get(fellow).at = mile;
            earned[mile] = w.earned();
        }
        return lowestOfMost(earned);
    }

    private long kind(F f, int number) {
        int[] earned = new int[6];
        for (int kind = 0; kind < 6; kind++) {
            Way w = way.again();
            w.fellows.set(number, turned(f, kind));
            earned[kind] = w.earned();
        }
        return lowestOfMost(earned);
    }

    private static int lowestOfMost(int[] earned) {
        int most = Arrays.stream(earned).max().getAsInt();
        for (int i = 0; i < earned.length; i++) {
            if (earned[i] == most) {
                return i;
            }
        }
        throw new IllegalStateException();
    }

    private int awake() {
        int up = way.awakeSet();
        List<Integer> sets = new ArrayList<>();
        Map<Integer, Integer> earned = new HashMap<>();
        for (int set = 0; set < 128; set++) {
            if ((set | up) == up) {
                sets.add(set);
                earned.put(set, way.alone(set).earned());
            }
        }
        sets.sort((p, q) -> {
            int byEarned = Integer.compare(earned.get(q), earned.get(p));
            int byCount = Integer.compare(Integer.bitCount(p), Integer.bitCount(q));
            return byEarned != 0 ? byEarned : byCount != 0 ? byCount : Integer.compare(p, q);
        });
        return sets.get(0);
    }

    private int who(int task) {
        int up = way.awakeSet();
        for (int count = 0; count <= 7; count++) {
            for (int set = 0; set < 128; set++) {
                if (Integer.bitCount(set) == count && (set | up) == up) {
                    Way w = way.alone(set);
                    if (w.met(w.tasks.get(task))) {
                        return set;
                    }
                }
            }
        }
        throw new Finding(Check.NONE);
    }

    private long spoils() {
        int set = 0;
        for (int i = 0; i < way.fellows.size(); i++) {
            Way w = way.again();
            w.fellows.get(i).asleep = true;
            set += w.earned() > way.earned() ? 1 << i : 0;
        }
        return set;
    }

    private long learn() {
        int[] earned = new int[way.fellows.size()];
        for (int i = 0; i < earned.length; i++) {
            Way w = way.again();
            w.fellows.get(i).skill = Math.min(9, w.fellows.get(i).skill + 1);
            earned[i] = w.earned() - way.earned();
        }
        if (earned.length == 0 || earned[lowestOfMost(earned)] <= 0) {
            throw new Finding(Check.NONE);
        }
        return lowestOfMost(earned);
    }

    private long skill(F f, int[] task) {
        int was = f.skill;
        int least = 0;
        for (f.skill = 9; f.skill >= 1; f.skill--) {
            least = way.met(task) ? f.skill : least;
        }
        f.skill = was;
        if (least == 0) {
            throw new Finding(Check.NONE);
        }
        return least;
    }

    private long[] shares() {
        int n = way.fellows.size();
        Map<Integer, Integer> earned = new HashMap<>();
        for (int set = 0; set < 1 << n; set++) {
            earned.put(set, way.alone(set).earned());
        }
        long[] sums = new long[n];
        long orders = come(0, earned, sums, 0);
        for (int i = 0; i < n; i++) {
            if (sums[i] * 5040 % orders != 0) {
                throw new IllegalStateException("a rest is left");
            }
            sums[i] = sums[i] * 5040 / orders;
        }
        return sums;
    }

    private long come(int there, Map<Integer, Integer> earned, long[] sums, int depth) {
        if (depth == sums.length) {
            return 1;
        }
        long orders = 0;
        for (int i = 0; i < sums.length; i++) {
            if ((there >> i & 1) == 0) {
                long behind = come(there | 1 << i, earned, sums, depth + 1);
                sums[i] += behind * (earned.get(there | 1 << i) - earned.get(there));
                orders += behind;
            }
        }
        return orders;
    }

    private long first() {
        long[] shares = shares();
        if (shares.length == 0) {
            throw new Finding(Check.NONE);
        }
        int first = shares.length - 1;
        for (int i = first; i >= 0; i--) {
            first = shares[i] >= shares[first] ? i : first;
        }
        return first;
    }

    private long sets(long v) {
        within(v, 0, 999);
        long count = 0;
        for (int set = 0; set < 1 << way.fellows.size(); set++) {
            count += way.alone(set).earned() >= v ? 1 : 0;
        }
        return count;
    }

    private long feed(int bytes, long n) {
        within(n, 1, 4);
        if (tape.length + n > 120) {
            throw new Finding(Check.FULL);
        }
        byte[] four = {(byte) (bytes >> 24), (byte) (bytes >> 16), (byte) (bytes >> 8), (byte) bytes};
        byte[] longer = Arrays.copyOf(tape, tape.length + (int) n);
        System.arraycopy(four, 4 - (int) n, longer, tape.length, (int) n);
        tape = longer;
        return tape.length;
    }

    private long wipe() {
        long had = tape.length;
        tape = new byte[0];
        return had;
    }

    private record Token(int place, String text) {
        boolean isNumber(int least, int most) {
            if (text.isEmpty() || !Character.isDigit(text.charAt(0)) || text.charAt(0) > '9') {
                return false;
            }
            BigInteger n = new BigInteger(text);
            return n.compareTo(BigInteger.valueOf(999)) <= 0 && n.intValue() >= least && n.intValue() <= most;
        }
    }

    private List<Token> tokens;
    private int next;

    private Token expect(String... words) {
        Token token = tokens.get(next);
        if (!List.of(words).contains(token.text)) {
            throw new Fault(token.place);
        }
        next++;
        return token;
    }

    private int expectNumber(int least, int most) {
        Token token = tokens.get(next);
        if (!token.isNumber(least, most)) {
            throw new Fault(token.place);
        }
        next++;
        return Integer.parseInt(token.text);
    }

    private boolean sees(String word) {
        return tokens.get(next).text.equals(word);
    }

    private long road() {
        String text = new String(tape, StandardCharsets.ISO_8859_1);
        tape = new byte[0];
        tokens = new ArrayList<>();
        Matcher m = Pattern.compile("[a-z]+|[0-9]+|;|[^ ]", Pattern.DOTALL).matcher(text);
        while (m.find()) {
            tokens.add(new Token(m.start(), m.group()));
        }
        tokens.add(new Token(text.length(), ""));
        next = 0;
        Way w = way.again();
        try {
            long items = 0;
            do {
                item(w);
                items++;
            } while (!expect(";", "").text.isEmpty());
            way = w;
            return items;
        } catch (Fault fault) {
            return -1 - fault.place;
        }
    }

    private void item(Way w) {
        Token head = expect("task", "wake", "sleep", "fellow", "runner", "hunter", "blower", "legged", "hatted");
        if (head.text.equals("task")) {
            if (w.tasks.size() == 8) {
                throw new Fault(head.place);
            }
            int sort = SORT_NAMES.indexOf(expect("run", "shoot", "blow", "freeze", "carry").text);
            expect("at");
            int mile = expectNumber(0, 30);
            expect("need");
            int need = expectNumber(1, 99);
            expect("pay");
            w.tasks.add(new int[] {sort, mile, need, expectNumber(0, 99)});
        } else if (head.text.equals("wake") || head.text.equals("sleep")) {
            int who = expectNumber(0, w.fellows.size() - 1);
            w.fellows.get(who).asleep = head.text.equals("sleep");
        } else {
            if (w.fellows.size() == 7) {
                throw new Fault(head.place);
            }
            F f = make(KIND_NAMES.indexOf(head.text));
            expect("at");
            f.at = expectNumber(0, 30);
            f.goal = f.at;
            if (sees("goes")) {
                expect("goes");
                f.goal = expectNumber(0, 30);
            }
            if (sees("skill")) {
                expect("skill");
                f.skill = expectNumber(1, 9);
            }
            if (sees("asleep")) {
                expect("asleep");
                f.asleep = true;
            }
            w.fellows.add(f);
        }
    }

    private long newSheet(long s, long b, long n) {
        within(s, 0, 3);
        if (b != 0 && b != 8 && b != 16 && b != 64) {
            throw beyond();
        }
        if (n < 0) {
            throw new Finding(Check.SIZE);
        }
        within(n, 0, 40);
        bits[(int) s] = (int) b;
        sheets[(int) s] = b == 0 ? null : new long[(int) n];
        return b == 0 ? 0 : n;
    }

    private long write(long[] sheet, long[] a) {
        within(a[1], 0, sheet.length - 1);
        long was = sheet[(int) a[1]];
        sheet[(int) a[1]] = cut(a[2], bits[(int) a[0]]);
        return was;
    }

    private long copy(long[] a) {
        within(a[0], 0, 3);
        within(a[2], 0, 3);
        long[] source = sheet(a[0]).clone();
        long[] target = sheet(a[2]);
        if (bits[(int) a[0]] != bits[(int) a[2]]) {
            throw new Finding(Check.KIND);
        }
        if (a[1] < 0 || a[3] < 0 || a[4] < 0 || a[1] + a[4] > source.length || a[3] + a[4] > target.length) {
            throw beyond();
        }
        for (int i = 0; i < a[4]; i++) {
            target[(int) a[3] + i] = source[(int) a[1] + i];
        }
        return a[4];
    }

    private long lays(long[] sheet) {
        int came = 0;
        for (int i = 0; i < sheet.length; i++) {
            if (sheet[i] >= 0 && sheet[i] <= 30 && i < way.fellows.size()) {
                way.fellows.get(i).goal = (int) sheet[i];
                came++;
            }
        }
        return came;
    }

    private long book(long[] sheet, int b) {
        for (int n = 0; n < sheet.length; n++) {
            sheet[n] = cut(way.on(n).earned(), b);
        }
        return sheet.length;
    }

    private long read(long[] sheet) {
        long count = 0;
        for (int asleep = 0; asleep < 1 << way.fellows.size(); asleep++) {
            Way w = way.again();
            for (int i = 0; i < w.fellows.size(); i++) {
                w.fellows.get(i).asleep = (asleep >> i & 1) == 1;
            }
            boolean isSo = true;
            for (int i = 0; i < sheet.length && i < w.tasks.size(); i++) {
                isSo &= w.met(w.tasks.get(i)) == (sheet[i] != 0);
            }
            count += isSo ? 1 : 0;
        }
        return count;
    }

    private long undo() {
        if (kept == null) {
            throw new Finding(Check.NONE);
        }
        way = kept.again();
        return way.fellows.size();
    }

    private long count(long what) {
        within(what, 0, 4);
        int skills = way.fellows.stream().mapToInt(f -> f.skill).sum();
        int pays = way.tasks.stream().mapToInt(t -> t[3]).sum();
        return new int[] {way.fellows.size(), way.tasks.size(), tape.length, skills, pays}[(int) what];
    }

    private long status(long which) {
        within(which, -1, 6);
        return which == -1 ? Arrays.stream(found).sum() : found[(int) which];
    }
}

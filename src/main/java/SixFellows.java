import java.util.Arrays;

/** Fellows of kinds with skills on a road of miles, and the tasks that they meet or spoil. */
public final class SixFellows {
    private static final int BEYOND = -1000000001;
    private static final int FULL = -1000000002;
    private static final int OTHER_KIND = -1000000003;
    private static final int NONE = -1000000004;
    private static final int STATE = -1000000005;
    private static final int MISSING = -1000000006;
    private static final int SIZE = -1000000007;
    private static final int FINDINGS = 7;

    private static final int LAST_MILE = 30;
    private static final int LAST_HOUR = 9999;
    private static final int MOST_HOURS = 60;
    private static final int MOST_FELLOWS = 7;
    private static final int MOST_TASKS = 8;
    private static final int MOST_SKILL = 9;
    private static final int FIRST_SKILL = 3;
    private static final int MOST_NEED = 99;
    private static final int MOST_PAY = 99;
    private static final int MOST_EARNED_ASKED = 999;
    private static final int SPOILING_MILES = 2;

    private static final int FELLOW = 0;
    private static final int RUNNER = 1;
    private static final int HUNTER = 2;
    private static final int BLOWER = 3;
    private static final int LEGGED = 4;
    private static final int HATTED = 5;
    private static final int KINDS = 6;
    private static final int NO_KIND = -1;
    private static final int[] KIND_ABOVE = {NO_KIND, FELLOW, FELLOW, FELLOW, RUNNER, BLOWER};

    private static final int RUN = 0;
    private static final int SHOOT = 1;
    private static final int BLOW = 2;
    private static final int FREEZE = 3;
    private static final int CARRY = 4;
    private static final int SORTS = 5;

    private static final int MOST_BYTES = 120;
    private static final int MOST_FED = 4;
    private static final int SHEETS = 4;
    private static final int MOST_NUMBERS = 40;

    private static final int[] FACTORIALS = {1, 1, 2, 6, 24, 120, 720, 5040};
    // 5040 by the orders of 0, 1, .. fellows: multiplied by, so that nothing is divided.
    private static final int[] WEIGHT_OF_ORDER = {5040, 5040, 2520, 840, 210, 42, 7, 1};

    private final int[] found = new int[FINDINGS];
    private final Road present = new Road();
    private final Road kept = new Road();
    // What-ifs are tried on this one, so that no call makes a road of its own.
    private final Road trial = new Road();
    private final Tape tape = new Tape();
    private final Sheet[] sheets = {new Sheet(), new Sheet(), new Sheet(), new Sheet()};
    private final int[] earnedBySet = new int[1 << MOST_FELLOWS];
    private boolean isKept = false;

    public SixFellows() {
    }

    // ---- fellows

    public int fellow(int kind, int mile) {
        if (!isKind(kind) || !isMile(mile)) {
            return tell(BEYOND);
        }
        if (present.fellowCount >= MOST_FELLOWS) {
            return tell(FULL);
        }
        return present.addFellow(kind, mile);
    }

    public int of(int fellow, int what) {
        if (!isFellow(fellow)) {
            return tell(BEYOND);
        }
        switch (what) {
            case 0: return present.kinds[fellow];
            case 1: return present.miles[fellow];
            case 2: return present.goals[fellow];
            case 3: return present.skills[fellow];
            case 4: return has(present.asleep, fellow) ? 1 : 0;
            case 5: return present.isSpoilt(fellow, present.awakeSet()) ? 1 : 0;
            case 6: return paceOf(present.kinds[fellow]);
            case 7: return present.hoursToGoal(fellow);
            default: return tell(BEYOND);
        }
    }

    public int set(int fellow, int what, int v) {
        if (!isFellow(fellow) || !maySet(what, v)) {
            return tell(BEYOND);
        }
        if (what == 4) {
            return present.putAsleep(fellow, v == 1);
        }
        int[] row = what == 1 ? present.miles : what == 2 ? present.goals : present.skills;
        int was = row[fellow];
        row[fellow] = v;
        return was;
    }

    private static boolean maySet(int what, int v) {
        switch (what) {
            case 1: return isMile(v);
            case 2: return isMile(v);
            case 3: return isWithin(v, 1, MOST_SKILL);
            case 4: return isWithin(v, 0, 1);
            default: return false;
        }
    }

    public int turn(int fellow, int kind) {
        if (!isFellow(fellow) || !isKind(kind)) {
            return tell(BEYOND);
        }
        int was = present.kinds[fellow];
        present.kinds[fellow] = kind;
        return was;
    }

    public int as(int fellow, int kind) {
        if (!isFellow(fellow) || !isKind(kind)) {
            return tell(BEYOND);
        }
        if (!isOfKind(present.kinds[fellow], kind)) {
            return tell(OTHER_KIND);
        }
        return present.skills[fellow];
    }

    public int does(int fellow, int sort) {
        if (!isFellow(fellow) || !isSort(sort)) {
            return tell(BEYOND);
        }
        return workOf(present.kinds[fellow], sort, present.skills[fellow]);
    }

    // ---- tasks

    public int task(int sort, int mile, int need, int pay) {
        if (!isSort(sort) || !isMile(mile) || !isWithin(need, 1, MOST_NEED)
                || !isWithin(pay, 0, MOST_PAY)) {
            return tell(BEYOND);
        }
        if (present.taskCount >= MOST_TASKS) {
            return tell(FULL);
        }
        return present.addTask(sort, mile, need, pay);
    }

    public int taskOf(int task, int what) {
        if (!isTask(task)) {
            return tell(BEYOND);
        }
        int awake = present.awakeSet();
        int spoilt = present.spoiltSet(awake);
        switch (what) {
            case 0: return present.sorts[task];
            case 1: return present.taskMiles[task];
            case 2: return present.needs[task];
            case 3: return present.pays[task];
            case 4: return present.helpOfAll(task, awake, spoilt);
            case 5: return present.isMet(task, awake) ? 1 : 0;
            case 6: return present.helperSet(task, awake, spoilt);
            default: return tell(BEYOND);
        }
    }

    public int helps(int fellow, int task) {
        if (!isFellow(fellow) || !isTask(task)) {
            return tell(BEYOND);
        }
        int awake = present.awakeSet();
        return present.helpOf(fellow, task, awake, present.spoiltSet(awake));
    }

    public int done(int task) {
        if (!isTask(task)) {
            return tell(BEYOND);
        }
        int pay = present.pays[task];
        present.dropTask(task);
        return pay;
    }

    // ---- hours

    public int hours(int n) {
        if (!isWithin(n, 1, MOST_HOURS)) {
            return tell(BEYOND);
        }
        if (present.hour + n > LAST_HOUR) {
            return tell(STATE);
        }
        present.letHoursGo(n);
        return present.earned(present.awakeSet());
    }

    public int now(int what) {
        int awake = present.awakeSet();
        switch (what) {
            case 0: return present.hour;
            case 1: return present.metSet(awake);
            case 2: return present.earned(awake);
            case 3: return present.asleep;
            case 4: return present.spoiltSet(awake);
            case 5: return present.spread();
            default: return tell(BEYOND);
        }
    }

    public int on(int n) {
        if (!isWithin(n, 0, MOST_HOURS)) {
            return tell(BEYOND);
        }
        trial.become(present);
        trial.letHoursGo(n);
        return trial.metSet(trial.awakeSet());
    }

    public int when(int task) {
        if (!isTask(task)) {
            return tell(BEYOND);
        }
        trial.become(present);
        for (int n = 0; n <= MOST_HOURS; n++) {
            if (trial.isMet(task, trial.awakeSet())) {
                return n;
            }
            trial.letHoursGo(1);
        }
        return tell(NONE);
    }

    public int best() {
        trial.become(present);
        int bestHours = 0;
        int mostEarned = -1;
        for (int n = 0; n <= MOST_HOURS; n++) {
            int earned = trial.earned(trial.awakeSet());
            if (earned > mostEarned) {
                mostEarned = earned;
                bestHours = n;
            }
            trial.letHoursGo(1);
        }
        return bestHours;
    }

    // ---- where, whom

    public int stand(int fellow) {
        if (!isFellow(fellow)) {
            return tell(BEYOND);
        }
        trial.become(present);
        return bestValue(trial.miles, fellow, LAST_MILE);
    }

    public int kind(int fellow) {
        if (!isFellow(fellow)) {
            return tell(BEYOND);
        }
        trial.become(present);
        return bestValue(trial.kinds, fellow, KINDS - 1);
    }

    /** The value from 0 to last in a fellow's place of a row of the trial by which most is earned. */
    private int bestValue(int[] row, int fellow, int last) {
        int bestSoFar = 0;
        int mostEarned = -1;
        for (int value = 0; value <= last; value++) {
            row[fellow] = value;
            int earned = trial.earned(trial.awakeSet());
            if (earned > mostEarned) {
                mostEarned = earned;
                bestSoFar = value;
            }
        }
        return bestSoFar;
    }

    public int awake() {
        return bestSet();
    }

    public int most() {
        return present.earned(bestSet());
    }

    private int bestSet() {
        int awake = present.awakeSet();
        int bestSoFar = 0;
        int mostEarned = -1;
        for (int set = 0; set <= awake; set++) {
            if ((set & awake) != set) {
                continue;
            }
            int earned = present.earned(set);
            boolean isSmaller = Integer.bitCount(set) < Integer.bitCount(bestSoFar);
            if (earned > mostEarned || earned == mostEarned && isSmaller) {
                mostEarned = earned;
                bestSoFar = set;
            }
        }
        return bestSoFar;
    }

    public int fewest(int task) {
        if (!isTask(task)) {
            return tell(BEYOND);
        }
        int set = smallestSetFor(task);
        return set == 0 ? tell(NONE) : Integer.bitCount(set);
    }

    public int who(int task) {
        if (!isTask(task)) {
            return tell(BEYOND);
        }
        int set = smallestSetFor(task);
        return set == 0 ? tell(NONE) : set;
    }

    /** 0 if there is none: every task needs 1 at least, so nobody meets none. */
    private int smallestSetFor(int task) {
        int awake = present.awakeSet();
        int smallest = 0;
        for (int set = 1; set <= awake; set++) {
            if ((set & awake) != set || !present.isMet(task, set)) {
                continue;
            }
            if (smallest == 0 || Integer.bitCount(set) < Integer.bitCount(smallest)) {
                smallest = set;
            }
        }
        return smallest;
    }

    public int spoils() {
        int awake = present.awakeSet();
        int earned = present.earned(awake);
        int spoilers = 0;
        for (int i = 0; i < present.fellowCount; i++) {
            if (has(awake, i) && present.earned(awake & ~(1 << i)) > earned) {
                spoilers |= 1 << i;
            }
        }
        return spoilers;
    }

    public int learn() {
        trial.become(present);
        int awake = trial.awakeSet();
        int mostEarned = trial.earned(awake);
        int learner = -1;
        for (int i = 0; i < trial.fellowCount; i++) {
            int skill = trial.skills[i];
            trial.skills[i] = Math.min(skill + 1, MOST_SKILL);
            int earned = trial.earned(awake);
            trial.skills[i] = skill;
            if (earned > mostEarned) {
                mostEarned = earned;
                learner = i;
            }
        }
        return learner < 0 ? tell(NONE) : learner;
    }

    public int skill(int fellow, int task) {
        if (!isFellow(fellow) || !isTask(task)) {
            return tell(BEYOND);
        }
        trial.become(present);
        for (int skill = 1; skill <= MOST_SKILL; skill++) {
            trial.skills[fellow] = skill;
            if (trial.isMet(task, trial.awakeSet())) {
                return skill;
            }
        }
        return tell(NONE);
    }

    // ---- wages

    public int missed(int fellow) {
        if (!isFellow(fellow)) {
            return tell(BEYOND);
        }
        int awake = present.awakeSet();
        return present.earned(awake) - present.earned(awake & ~(1 << fellow));
    }

    public long share(int fellow) {
        if (!isFellow(fellow)) {
            return tell(BEYOND);
        }
        weighSets();
        return shareOf(fellow);
    }

    public int first() {
        if (present.fellowCount == 0) {
            return tell(NONE);
        }
        weighSets();
        int greatest = 0;
        for (int i = 1; i < present.fellowCount; i++) {
            if (shareOf(i) > shareOf(greatest)) {
                greatest = i;
            }
        }
        return greatest;
    }

    private void weighSets() {
        int awake = present.awakeSet();
        int all = present.allSet();
        for (int set = 0; set <= all; set++) {
            earnedBySet[set] = present.earned(set & awake);
        }
    }

    /**
     * A fellow comes right behind just the others of a set in (size of the set)! times
     * (those left)! orders: so sets are gone through, not orders.
     */
    private long shareOf(int fellow) {
        int count = present.fellowCount;
        int all = present.allSet();
        long together = 0;
        for (int set = 0; set <= all; set++) {
            if (has(set, fellow)) {
                continue;
            }
            int before = Integer.bitCount(set);
            long orders = (long) FACTORIALS[before] * FACTORIALS[count - 1 - before];
            together += orders * (earnedBySet[set | 1 << fellow] - earnedBySet[set]);
        }
        return together * WEIGHT_OF_ORDER[count];
    }

    public int sets(int v) {
        if (!isWithin(v, 0, MOST_EARNED_ASKED)) {
            return tell(BEYOND);
        }
        int awake = present.awakeSet();
        int all = present.allSet();
        int enough = 0;
        for (int set = 0; set <= all; set++) {
            if (present.earned(set & awake) >= v) {
                enough++;
            }
        }
        return enough;
    }

    // ---- the text

    public int feed(int bytes, int n) {
        if (!isWithin(n, 1, MOST_FED)) {
            return tell(BEYOND);
        }
        if (tape.size + n > MOST_BYTES) {
            return tell(FULL);
        }
        tape.append(bytes, n);
        return tape.size;
    }

    public int wipe() {
        return tape.empty();
    }

    public int road() {
        trial.become(present);
        int items = tape.tellTo(trial);
        if (items >= 0) {
            present.become(trial);
        }
        tape.empty();
        return items;
    }

    // ---- sheets

    public int sheet(int s, int bits, int n) {
        if (!isSheet(s) || bits != 0 && bits != 8 && bits != 16 && bits != 64) {
            return tell(BEYOND);
        }
        if (n < 0) {
            return tell(SIZE);
        }
        if (n > MOST_NUMBERS) {
            return tell(BEYOND);
        }
        sheets[s].begin(bits, n);
        return sheets[s].size;
    }

    public long write(int s, int i, long v) {
        if (!isSheet(s)) {
            return tell(BEYOND);
        }
        Sheet sheet = sheets[s];
        if (sheet.isMissing()) {
            return tell(MISSING);
        }
        if (!isWithin(i, 0, sheet.size - 1)) {
            return tell(BEYOND);
        }
        long was = sheet.numbers[i];
        sheet.put(i, v);
        return was;
    }

    public int copy(int s, int from, int t, int to, int n) {
        if (!isSheet(s) || !isSheet(t)) {
            return tell(BEYOND);
        }
        Sheet source = sheets[s];
        Sheet target = sheets[t];
        if (source.isMissing() || target.isMissing()) {
            return tell(MISSING);
        }
        if (source.bits != target.bits) {
            return tell(OTHER_KIND);
        }
        if (!source.holds(from, n) || !target.holds(to, n)) {
            return tell(BEYOND);
        }
        System.arraycopy(source.numbers, from, target.numbers, to, n);
        return n;
    }

    public int lays(int s) {
        if (!isSheet(s)) {
            return tell(BEYOND);
        }
        Sheet sheet = sheets[s];
        if (sheet.isMissing()) {
            return tell(MISSING);
        }
        int came = 0;
        for (int i = 0; i < Math.min(sheet.size, present.fellowCount); i++) {
            long goal = sheet.numbers[i];
            if (goal >= 0 && goal <= LAST_MILE) {
                present.goals[i] = (int) goal;
                came++;
            }
        }
        return came;
    }

    public int book(int s) {
        if (!isSheet(s)) {
            return tell(BEYOND);
        }
        Sheet sheet = sheets[s];
        if (sheet.isMissing()) {
            return tell(MISSING);
        }
        trial.become(present);
        for (int n = 0; n < sheet.size; n++) {
            sheet.put(n, trial.earned(trial.awakeSet()));
            trial.letHoursGo(1);
        }
        return sheet.size;
    }

    public int read(int s) {
        if (!isSheet(s)) {
            return tell(BEYOND);
        }
        Sheet sheet = sheets[s];
        if (sheet.isMissing()) {
            return tell(MISSING);
        }
        int toldOf = (1 << Math.min(sheet.size, present.taskCount)) - 1;
        int toldMet = sheet.otherThanZero() & toldOf;
        int all = present.allSet();
        int fitting = 0;
        for (int asleep = 0; asleep <= all; asleep++) {
            if ((present.metSet(all & ~asleep) & toldOf) == toldMet) {
                fitting++;
            }
        }
        return fitting;
    }

    // ---- images

    public int image() {
        kept.become(present);
        isKept = true;
        return 1;
    }

    public int undo() {
        if (!isKept) {
            return tell(NONE);
        }
        present.become(kept);
        return present.fellowCount;
    }

    public int tear() {
        int was = isKept ? 1 : 0;
        isKept = false;
        return was;
    }

    public int count(int what) {
        switch (what) {
            case 0: return present.fellowCount;
            case 1: return present.taskCount;
            case 2: return tape.size;
            case 3: return sumOf(present.skills, present.fellowCount);
            case 4: return sumOf(present.pays, present.taskCount);
            default: return tell(BEYOND);
        }
    }

    public int status(int which) {
        if (which == -1) {
            return sumOf(found, FINDINGS);
        }
        if (!isWithin(which, 0, FINDINGS - 1)) {
            return tell(BEYOND);
        }
        return found[which];
    }

    // ---- what all of them ask

    private int tell(int finding) {
        int which = BEYOND - finding;
        if (isWithin(which, 0, FINDINGS - 1)) {
            found[which]++;
        }
        return finding;
    }

    private boolean isFellow(int fellow) {
        return isWithin(fellow, 0, present.fellowCount - 1);
    }

    private boolean isTask(int task) {
        return isWithin(task, 0, present.taskCount - 1);
    }

    private static boolean isKind(int kind) {
        return isWithin(kind, 0, KINDS - 1);
    }

    private static boolean isSort(int sort) {
        return isWithin(sort, 0, SORTS - 1);
    }

    private static boolean isMile(int mile) {
        return isWithin(mile, 0, LAST_MILE);
    }

    private static boolean isSheet(int s) {
        return isWithin(s, 0, SHEETS - 1);
    }

    private static boolean isWithin(int value, int least, int greatest) {
        return value >= least && value <= greatest;
    }

    private static boolean has(int set, int i) {
        return (set >> i & 1) == 1;
    }

    private static int sumOf(int[] row, int count) {
        int sum = 0;
        for (int i = 0; i < count; i++) {
            sum += row[i];
        }
        return sum;
    }

    // ---- what the kinds are like

    private static boolean isOfKind(int kind, int wanted) {
        int k = kind;
        for (int step = 0; step < KINDS && k >= 0 && k < KINDS; step++) {
            if (k == wanted) {
                return true;
            }
            k = KIND_ABOVE[k];
        }
        return false;
    }

    private static int workOf(int kind, int sort, int skill) {
        switch (sort) {
            case RUN: return kind == RUNNER ? 5 * skill : kind == LEGGED ? 2 * (5 * skill) : 1;
            case SHOOT: return kind == HUNTER ? 6 * skill : 1;
            case BLOW: return kind == BLOWER ? 7 * skill : kind == HATTED ? 7 * skill / 2 : 1;
            case FREEZE: return kind == HATTED ? 8 * skill : 1;
            case CARRY: return kind == LEGGED ? 0 : 2 * skill;
            default: return 0;
        }
    }

    private static int paceOf(int kind) {
        return kind == RUNNER ? 3 : kind == LEGGED ? 2 * 3 : 1;
    }

    /** The kind whose being near spoils one of this kind. */
    private static int spoilerOf(int kind) {
        switch (kind) {
            case HUNTER: return BLOWER;
            case RUNNER: return HATTED;
            case LEGGED: return HATTED;
            default: return NO_KIND;
        }
    }

    /**
     * All that an image keeps. Who is awake is handed to what depends on it, as a set, so that
     * sets of fellows can be weighed without laying anyone to sleep.
     */
    private static final class Road {
        int hour = 0;
        int fellowCount = 0;
        int taskCount = 0;
        int asleep = 0;
        final int[] kinds = new int[MOST_FELLOWS];
        final int[] miles = new int[MOST_FELLOWS];
        final int[] goals = new int[MOST_FELLOWS];
        final int[] skills = new int[MOST_FELLOWS];
        final int[] sorts = new int[MOST_TASKS];
        final int[] taskMiles = new int[MOST_TASKS];
        final int[] needs = new int[MOST_TASKS];
        final int[] pays = new int[MOST_TASKS];

        void become(Road other) {
            hour = other.hour;
            fellowCount = other.fellowCount;
            taskCount = other.taskCount;
            asleep = other.asleep;
            System.arraycopy(other.kinds, 0, kinds, 0, MOST_FELLOWS);
            System.arraycopy(other.miles, 0, miles, 0, MOST_FELLOWS);
            System.arraycopy(other.goals, 0, goals, 0, MOST_FELLOWS);
            System.arraycopy(other.skills, 0, skills, 0, MOST_FELLOWS);
            System.arraycopy(other.sorts, 0, sorts, 0, MOST_TASKS);
            System.arraycopy(other.taskMiles, 0, taskMiles, 0, MOST_TASKS);
            System.arraycopy(other.needs, 0, needs, 0, MOST_TASKS);
            System.arraycopy(other.pays, 0, pays, 0, MOST_TASKS);
        }

        /** Only where there are fewer than MOST_FELLOWS. */
        int addFellow(int kind, int mile) {
            int fellow = fellowCount;
            kinds[fellow] = kind;
            miles[fellow] = mile;
            goals[fellow] = mile;
            skills[fellow] = FIRST_SKILL;
            fellowCount++;
            return fellow;
        }

        /** Only where there are fewer than MOST_TASKS. */
        int addTask(int sort, int mile, int need, int pay) {
            int task = taskCount;
            sorts[task] = sort;
            taskMiles[task] = mile;
            needs[task] = need;
            pays[task] = pay;
            taskCount++;
            return task;
        }

        void dropTask(int task) {
            taskCount--;
            for (int i = task; i < taskCount; i++) {
                sorts[i] = sorts[i + 1];
                taskMiles[i] = taskMiles[i + 1];
                needs[i] = needs[i + 1];
                pays[i] = pays[i + 1];
            }
        }

        int putAsleep(int fellow, boolean sleeps) {
            int was = has(asleep, fellow) ? 1 : 0;
            asleep = sleeps ? asleep | 1 << fellow : asleep & ~(1 << fellow);
            return was;
        }

        int allSet() {
            return (1 << fellowCount) - 1;
        }

        int awakeSet() {
            return allSet() & ~asleep;
        }

        boolean isSpoilt(int fellow, int awake) {
            int spoiler = spoilerOf(kinds[fellow]);
            if (spoiler == NO_KIND) {
                return false;
            }
            for (int i = 0; i < fellowCount; i++) {
                if (i != fellow && has(awake, i) && isOfKind(kinds[i], spoiler)
                        && Math.abs(miles[i] - miles[fellow]) <= SPOILING_MILES) {
                    return true;
                }
            }
            return false;
        }

        int spoiltSet(int awake) {
            int set = 0;
            for (int i = 0; i < fellowCount; i++) {
                if (isSpoilt(i, awake)) {
                    set |= 1 << i;
                }
            }
            return set;
        }

        int helpOf(int fellow, int task, int awake, int spoilt) {
            if (!has(awake, fellow)) {
                return 0;
            }
            int work = workOf(kinds[fellow], sorts[task], skills[fellow]);
            int left = has(spoilt, fellow) ? work / 2 : work;
            return Math.max(0, left - Math.abs(miles[fellow] - taskMiles[task]));
        }

        int helpOfAll(int task, int awake, int spoilt) {
            int together = 0;
            for (int i = 0; i < fellowCount; i++) {
                together += helpOf(i, task, awake, spoilt);
            }
            return together;
        }

        int helperSet(int task, int awake, int spoilt) {
            int set = 0;
            for (int i = 0; i < fellowCount; i++) {
                if (helpOf(i, task, awake, spoilt) > 0) {
                    set |= 1 << i;
                }
            }
            return set;
        }

        boolean isMet(int task, int awake) {
            return helpOfAll(task, awake, spoiltSet(awake)) >= needs[task];
        }

        int metSet(int awake) {
            int spoilt = spoiltSet(awake);
            int set = 0;
            for (int i = 0; i < taskCount; i++) {
                if (helpOfAll(i, awake, spoilt) >= needs[i]) {
                    set |= 1 << i;
                }
            }
            return set;
        }

        int earned(int awake) {
            int met = metSet(awake);
            int sum = 0;
            for (int i = 0; i < taskCount; i++) {
                if (has(met, i)) {
                    sum += pays[i];
                }
            }
            return sum;
        }

        int hoursToGoal(int fellow) {
            // At least 1 whatever the kind, as it divides.
            int pace = Math.max(1, paceOf(kinds[fellow]));
            return (Math.abs(goals[fellow] - miles[fellow]) + pace - 1) / pace;
        }

        void letHoursGo(int n) {
            hour += n;
            for (int i = 0; i < fellowCount; i++) {
                if (!has(asleep, i)) {
                    int reach = n * paceOf(kinds[i]);
                    int way = goals[i] - miles[i];
                    miles[i] += Math.max(-reach, Math.min(reach, way));
                }
            }
        }

        int spread() {
            if (fellowCount == 0) {
                return 0;
            }
            int least = miles[0];
            int greatest = miles[0];
            for (int i = 1; i < fellowCount; i++) {
                least = Math.min(least, miles[i]);
                greatest = Math.max(greatest, miles[i]);
            }
            return greatest - least;
        }
    }

    /** A row of numbers, held as longs that are cut to its bits when they come. */
    private static final class Sheet {
        int bits = 0;
        int size = 0;
        final long[] numbers = new long[MOST_NUMBERS];

        boolean isMissing() {
            return bits == 0;
        }

        void begin(int newBits, int newSize) {
            bits = newBits;
            size = newBits == 0 ? 0 : newSize;
            Arrays.fill(numbers, 0L);
        }

        void put(int i, long v) {
            numbers[i] = bits == 8 ? (byte) v : bits == 16 ? (short) v : v;
        }

        boolean holds(int from, int n) {
            return from >= 0 && n >= 0 && (long) from + n <= size;
        }

        /** Of the first numbers, as many as there may be tasks. */
        int otherThanZero() {
            int set = 0;
            for (int i = 0; i < Math.min(size, MOST_TASKS); i++) {
                if (numbers[i] != 0) {
                    set |= 1 << i;
                }
            }
            return set;
        }
    }

    /**
     * The bytes of a text and the token in hand. A token is taken only when it may stand where it
     * does, so where the text is at fault, the one in hand begins at the fault.
     */
    private static final class Tape {
        private static final int END = 0;
        private static final int WORD = 1;
        private static final int NUMBER = 2;
        private static final int SEMICOLON = 3;
        private static final int NO_TOKEN = 4;
        private static final int TOO_GREAT = 1000;

        final int[] bytes = new int[MOST_BYTES];
        int size = 0;
        int token = END;
        int start = 0;
        int end = 0;
        int number = 0;

        void append(int word, int n) {
            for (int i = n - 1; i >= 0 && size < MOST_BYTES; i--) {
                bytes[size] = word >>> 8 * i & 255;
                size++;
            }
        }

        int empty() {
            int had = size;
            size = 0;
            return had;
        }

        /** How many items came to the road, or -1 less the place of the fault. */
        int tellTo(Road road) {
            end = 0;
            advance();
            int items = 0;
            while (items < MOST_BYTES && takeItem(road)) {
                items++;
                if (token == END) {
                    return items;
                }
                if (token != SEMICOLON) {
                    break;
                }
                advance();
            }
            return -1 - start;
        }

        private boolean takeItem(Road road) {
            if (isWord("task")) {
                return takeTask(road);
            }
            if (isWord("wake")) {
                return takeSleep(road, false);
            }
            if (isWord("sleep")) {
                return takeSleep(road, true);
            }
            return takeFellow(road);
        }

        private boolean takeFellow(Road road) {
            int kind = kindInHand();
            if (kind == NO_KIND || road.fellowCount >= MOST_FELLOWS) {
                return false;
            }
            advance();
            if (!takeWord("at") || !isNumber(0, LAST_MILE)) {
                return false;
            }
            int fellow = road.addFellow(kind, takeNumber());
            if (takeWord("goes")) {
                if (!isNumber(0, LAST_MILE)) {
                    return false;
                }
                road.goals[fellow] = takeNumber();
            }
            if (takeWord("skill")) {
                if (!isNumber(1, MOST_SKILL)) {
                    return false;
                }
                road.skills[fellow] = takeNumber();
            }
            if (takeWord("asleep")) {
                road.putAsleep(fellow, true);
            }
            return true;
        }

        private boolean takeTask(Road road) {
            if (road.taskCount >= MOST_TASKS) {
                return false;
            }
            advance();
            int sort = sortInHand();
            if (sort < 0) {
                return false;
            }
            advance();
            if (!takeWord("at") || !isNumber(0, LAST_MILE)) {
                return false;
            }
            int mile = takeNumber();
            if (!takeWord("need") || !isNumber(1, MOST_NEED)) {
                return false;
            }
            int need = takeNumber();
            if (!takeWord("pay") || !isNumber(0, MOST_PAY)) {
                return false;
            }
            road.addTask(sort, mile, need, takeNumber());
            return true;
        }

        private boolean takeSleep(Road road, boolean sleeps) {
            advance();
            if (!isNumber(0, road.fellowCount - 1)) {
                return false;
            }
            road.putAsleep(takeNumber(), sleeps);
            return true;
        }

        private int kindInHand() {
            for (int kind = 0; kind < KINDS; kind++) {
                if (isWord(nameOfKind(kind))) {
                    return kind;
                }
            }
            return NO_KIND;
        }

        private static String nameOfKind(int kind) {
            switch (kind) {
                case FELLOW: return "fellow";
                case RUNNER: return "runner";
                case HUNTER: return "hunter";
                case BLOWER: return "blower";
                case LEGGED: return "legged";
                default: return "hatted";
            }
        }

        private int sortInHand() {
            for (int sort = 0; sort < SORTS; sort++) {
                if (isWord(nameOfSort(sort))) {
                    return sort;
                }
            }
            return -1;
        }

        private static String nameOfSort(int sort) {
            switch (sort) {
                case RUN: return "run";
                case SHOOT: return "shoot";
                case BLOW: return "blow";
                case FREEZE: return "freeze";
                default: return "carry";
            }
        }

        private boolean takeWord(String word) {
            if (!isWord(word)) {
                return false;
            }
            advance();
            return true;
        }

        private int takeNumber() {
            int taken = number;
            advance();
            return taken;
        }

        private boolean isNumber(int least, int greatest) {
            return token == NUMBER && isWithin(number, least, greatest);
        }

        private boolean isWord(String word) {
            if (token != WORD || end - start != word.length()) {
                return false;
            }
            for (int i = 0; i < word.length(); i++) {
                if (bytes[start + i] != word.charAt(i)) {
                    return false;
                }
            }
            return true;
        }

        private void advance() {
            start = end;
            while (start < size && bytes[start] == ' ') {
                start++;
            }
            end = start;
            number = 0;
            if (start >= size) {
                token = END;
            } else if (isLetter(bytes[start])) {
                token = WORD;
                while (end < size && isLetter(bytes[end])) {
                    end++;
                }
            } else if (isDigit(bytes[start])) {
                token = NUMBER;
                while (end < size && isDigit(bytes[end])) {
                    // Held down, as a long row of digits would wrap round to a small number.
                    number = Math.min(TOO_GREAT, number * 10 + bytes[end] - '0');
                    end++;
                }
            } else {
                token = bytes[start] == ';' ? SEMICOLON : NO_TOKEN;
                end++;
            }
        }

        private static boolean isLetter(int b) {
            return b >= 'a' && b <= 'z';
        }

        private static boolean isDigit(int b) {
            return b >= '0' && b <= '9';
        }
    }
}

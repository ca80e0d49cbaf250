import java.lang.reflect.InvocationTargetException;
import java.lang.reflect.Method;
import java.util.ArrayList;
import java.util.Comparator;
import java.util.List;
import java.util.Random;

/** Long runs of calls, drawn from fixed seeds, answered by the class and by the plain model alike. */
final class ModelTest {
    private static final int RUNS = 300;
    private static final int CALLS = 512;
    private static final int STATUS_CALLS = 8;
    private static final int[] ODD = {-1, -2, 31, 61, 100, 128, 1000, Integer.MIN_VALUE, Integer.MAX_VALUE};
    private static final String[] PARTS = {"fellow", "runner", "hunter", "blower", "legged", "hatted", "at", "goes", "skill",
        "asleep", "task", "run", "shoot", "blow", "freeze", "carry", "need", "pay", "wake", "sleep", ";", ";", "0", "1", "3",
        "7", "9", "10", "30", "31", "99", "100", "1000", "!", "zz", "A", " "};
    private static final String[] KINDS = {"fellow", "runner", "hunter", "blower", "legged", "hatted"};
    private static final String[] SORTS = {"run", "shoot", "blow", "freeze", "carry"};

    private static final List<Method> CALLS_OF_FACE = new ArrayList<>();

    public static void main(String[] args) throws ReflectiveOperationException {
        for (Method method : SixFellows.class.getDeclaredMethods()) {
            if (java.lang.reflect.Modifier.isPublic(method.getModifiers())) {
                CALLS_OF_FACE.add(method);
            }
        }
        CALLS_OF_FACE.sort(Comparator.comparing(Method::getName));
        for (int run = 0; run < RUNS; run++) {
            runOnce(run);
        }
        Check.end();
    }

    private static void runOnce(int run) throws ReflectiveOperationException {
        Random random = new Random(run);
        SixFellows x = new SixFellows();
        PlainModel model = new PlainModel();
        int odds = run % 3 == 0 ? 4 : 25;
        int made = 0;
        while (made < CALLS - STATUS_CALLS) {
            String text = random.nextInt(3) == 0 ? jumble(random) : story(random);
            if (random.nextInt(12) == 0 && made + text.length() < CALLS - STATUS_CALLS) {
                for (int i = 0; i < text.length(); i++) {
                    both(run, x, model, "feed", text.charAt(i), 1);
                    made++;
                }
                both(run, x, model, "road");
                made++;
                continue;
            }
            Method method = CALLS_OF_FACE.get(random.nextInt(CALLS_OF_FACE.size()));
            if (isRareFor(method.getName(), random)) {
                continue;
            }
            both(run, x, model, method.getName(), argumentsFor(method, random, odds));
            made++;
        }
        for (int which = -1; which < 7; which++) {
            both(run, x, model, "status", which);
        }
    }

    /** Calls that would soon take away what the others look at. */
    private static boolean isRareFor(String name, Random random) {
        boolean rare = name.equals("done") || name.equals("undo") || name.equals("wipe") || name.equals("road");
        return rare && random.nextInt(4) != 0;
    }

    private static void both(int run, SixFellows x, PlainModel model, String name, long... a)
            throws ReflectiveOperationException {
        Method method = CALLS_OF_FACE.stream().filter(m -> m.getName().equals(name)).findFirst().orElseThrow();
        Object[] boxed = new Object[a.length];
        StringBuilder call = new StringBuilder("run " + run + ": " + name + "(");
        for (int i = 0; i < a.length; i++) {
            boolean isLong = method.getParameterTypes()[i] == long.class;
            boxed[i] = isLong ? (Object) a[i] : (Object) (int) a[i];
            call.append(i == 0 ? "" : ", ").append(a[i]);
        }
        try {
            long got = ((Number) method.invoke(x, boxed)).longValue();
            Check.due(call.append(")").toString(), got, model.answer(name, a));
        } catch (InvocationTargetException thrown) {
            Check.holds(call + ") threw " + thrown.getCause(), false);
        }
    }

    private static long[] argumentsFor(Method method, Random random, int odds) {
        long[] a = new long[method.getParameterCount()];
        for (int i = 0; i < a.length; i++) {
            a[i] = random.nextInt(odds) == 0 ? ODD[random.nextInt(ODD.length)] : usual(method.getName(), i, random);
        }
        if (method.getName().equals("set") && random.nextInt(odds) != 0) {
            int[] bounds = {0, 31, 31, 10, 2};
            a[2] = a[1] < 1 || a[1] > 4 ? 0 : random.nextInt(bounds[(int) a[1]]);
        }
        return a;
    }

    private static long usual(String name, int i, Random random) {
        String at = name + i;
        switch (at) {
            case "fellow0": case "turn1": case "as1": return random.nextInt(6);
            case "fellow1": case "task1": return 10 + random.nextInt(random.nextBoolean() ? 6 : 21);
            case "task0": case "does1": case "set1": return random.nextInt(5);
            case "task2": return 1 + random.nextInt(random.nextBoolean() ? 25 : 99);
            case "task3": return random.nextInt(100);
            case "of1": return random.nextInt(8);
            case "taskOf1": return random.nextInt(7);
            case "hours0": return 1 + random.nextInt(random.nextBoolean() ? 4 : 60);
            case "on0": return random.nextInt(61);
            case "now0": return random.nextInt(6);
            case "count0": return random.nextInt(5);
            case "status0": return random.nextInt(8) - 1;
            case "sets0": return random.nextInt(400);
            case "feed0": return random.nextInt();
            case "feed1": return 1 + random.nextInt(4);
            case "sheet1": return new int[] {0, 8, 8, 16, 16, 64, 64}[random.nextInt(7)];
            case "sheet2": return random.nextInt(41);
            case "write1": return random.nextInt(12);
            case "write2": return random.nextInt(3) == 0 ? random.nextLong() : random.nextInt(40);
            case "copy1": case "copy3": case "copy4": return random.nextInt(10);
            case "sheet0": case "write0": case "copy0": case "copy2": case "lays0": case "book0": case "read0":
                return random.nextInt(4);
            default: return random.nextInt(6);
        }
    }

    private static String jumble(Random random) {
        StringBuilder text = new StringBuilder();
        int parts = random.nextInt(12);
        for (int i = 0; i < parts; i++) {
            text.append(PARTS[random.nextInt(PARTS.length)]).append(random.nextInt(5) == 0 ? "" : " ");
        }
        return text.substring(0, Math.min(60, text.length()));
    }

    /** A text that mostly stands, now and then with one letter changed. */
    private static String story(Random random) {
        StringBuilder text = new StringBuilder();
        int items = 1 + random.nextInt(3);
        for (int i = 0; i < items; i++) {
            text.append(i == 0 ? "" : ";").append(item(random));
        }
        if (random.nextInt(4) == 0 && text.length() > 0) {
            text.setCharAt(random.nextInt(text.length()), " ;a0!9".charAt(random.nextInt(6)));
        }
        return text.toString();
    }

    private static String item(Random random) {
        int sort = random.nextInt(5);
        if (sort < 2) {
            return (random.nextBoolean() ? "wake " : "sleep ") + random.nextInt(5);
        }
        if (sort == 2) {
            return "task " + SORTS[random.nextInt(5)] + " at " + random.nextInt(31) + " need " + (1 + random.nextInt(30))
                + " pay " + random.nextInt(100);
        }
        return KINDS[random.nextInt(6)] + " at " + random.nextInt(31) + (random.nextBoolean() ? " goes " + random.nextInt(31) : "")
            + (random.nextBoolean() ? " skill " + random.nextInt(10) : "") + (random.nextBoolean() ? " asleep" : "");
    }
}

import java.lang.reflect.Array;
import java.lang.reflect.Field;
import java.lang.reflect.Modifier;
import java.util.ArrayDeque;
import java.util.Collections;
import java.util.IdentityHashMap;
import java.util.Set;

/** An object's 512 calls: the last is answered as the first was, and none takes more room than the object had at first. */
final class RoomTest {
    private static final int CALLS = 512;
    /** As many as Roads.full() and its like take at most. */
    private static final int CALLS_TO_BEGIN = 80;
    private static final int MOST_OBJECTS = 60;
    private static final int MOST_ELEMENTS = 1000;

    private record Room(int objects, int elements) {
    }

    public static void main(String[] args) throws IllegalAccessException {
        roomOfOne();
        questions();
        refusals();
        changes();
        Check.end();
    }

    private static void roomOfOne() throws IllegalAccessException {
        Check.about("a new object");
        Room room = roomOf(new SixFellows());
        Check.holds("has " + MOST_OBJECTS + " objects and arrays at most, not " + room.objects, room.objects <= MOST_OBJECTS);
        Check.holds("has " + MOST_ELEMENTS + " fields and elements at most, not " + room.elements, room.elements <= MOST_ELEMENTS);
        Check.holds("has as much room as a full one", room.equals(roomOf(Roads.full())));
    }

    private static Room roomOf(SixFellows x) throws IllegalAccessException {
        Set<Object> seen = Collections.newSetFromMap(new IdentityHashMap<>());
        ArrayDeque<Object> open = new ArrayDeque<>();
        seen.add(x);
        open.add(x);
        int elements = 0;
        while (!open.isEmpty()) {
            Object one = open.remove();
            if (one.getClass().isArray()) {
                elements += Array.getLength(one);
                for (int i = 0; i < Array.getLength(one) && !one.getClass().getComponentType().isPrimitive(); i++) {
                    addNew(Array.get(one, i), seen, open);
                }
                continue;
            }
            for (Field field : one.getClass().getDeclaredFields()) {
                if (!Modifier.isStatic(field.getModifiers())) {
                    elements++;
                    field.setAccessible(true);
                    addNew(field.getType().isPrimitive() ? null : field.get(one), seen, open);
                }
            }
        }
        return new Room(seen.size(), elements);
    }

    private static void addNew(Object one, Set<Object> seen, ArrayDeque<Object> open) {
        if (one != null && seen.add(one)) {
            open.add(one);
        }
    }

    private static void again(SixFellows x, String call, Twins.Ask ask) throws IllegalAccessException {
        Check.about("an object's 512 calls");
        Room room = roomOf(x);
        long first = ask.of(x);
        long last = first;
        for (int i = CALLS_TO_BEGIN + 1; i < CALLS; i++) {
            last = ask.of(x);
        }
        Check.due(call + ", the last", last, first);
        Check.holds(call + " takes no more room", room.equals(roomOf(x)));
    }

    private static void questions() throws IllegalAccessException {
        again(Roads.full(), "of(6, 5)", x -> x.of(6, 5));
        again(Roads.full(), "as(5, 0)", x -> x.as(5, 0));
        again(Roads.full(), "does(6, 2)", x -> x.does(6, 2));
        again(Roads.full(), "taskOf(2, 6)", x -> x.taskOf(2, 6));
        again(Roads.full(), "helps(6, 7)", x -> x.helps(6, 7));
        again(Roads.full(), "now(2)", x -> x.now(2));
        again(Roads.full(), "on(60)", x -> x.on(60));
        again(Roads.full(), "when(0)", x -> x.when(0));
        again(Roads.full(), "best()", x -> x.best());
        again(Roads.full(), "stand(6)", x -> x.stand(6));
        again(Roads.full(), "kind(6)", x -> x.kind(6));
        again(Roads.full(), "awake()", x -> x.awake());
        again(Roads.full(), "most()", x -> x.most());
        again(Roads.full(), "fewest(2)", x -> x.fewest(2));
        again(Roads.full(), "who(2)", x -> x.who(2));
        again(Roads.full(), "spoils()", x -> x.spoils());
        again(Roads.full(), "skill(6, 2)", x -> x.skill(6, 2));
        again(Roads.full(), "missed(6)", x -> x.missed(6));
        again(Roads.full(), "share(6)", x -> x.share(6));
        again(Roads.full(), "first()", x -> x.first());
        again(Roads.full(), "sets(100)", x -> x.sets(100));
        again(Roads.full(), "read(2)", x -> x.read(2));
        again(Roads.full(), "count(4)", x -> x.count(4));
        again(Roads.full(), "status(-1)", x -> x.status(-1));
    }

    private static void refusals() throws IllegalAccessException {
        again(Roads.full(), "fellow(0, 0)", x -> x.fellow(0, 0));
        again(Roads.full(), "task(0, 0, 1, 0)", x -> x.task(0, 0, 1, 0));
        again(Roads.full(), "feed(0, 1)", x -> x.feed(0, 1));
        again(Roads.full(), "learn()", x -> x.learn());
        SixFellows x = new SixFellows();
        for (int i = 1; i < CALLS; i++) {
            x.status(7);
        }
        Check.due("status(-1) behind 511 findings", x.status(-1), CALLS - 1);
    }

    private static void changes() throws IllegalAccessException {
        again(Roads.full(), "set(6, 4, 0)", x -> x.set(6, 4, 0));
        again(Roads.full(), "turn(6, 3)", x -> x.turn(6, 3));
        again(Roads.full(), "write(2, 5, 0)", x -> x.write(2, 5, 0));
        again(Roads.full(), "sheet(2, 64, 40)", x -> x.sheet(2, 64, 40));
        again(Roads.full(), "copy(2, 0, 2, 1, 39)", x -> x.copy(2, 0, 2, 1, 39));
        again(Roads.full(), "lays(0)", x -> x.lays(0));
        again(Roads.full(), "book(2)", x -> x.book(2));
        again(Roads.full(), "image()", x -> x.image());
        again(Roads.full(), "undo()", x -> x.undo());
        again(new SixFellows(), "hours(1)", x -> x.hours(1));
        again(new SixFellows(), "road()", x -> x.road());
        again(new SixFellows(), "wipe()", x -> x.wipe());
        again(new SixFellows(), "tear()", x -> x.tear());
        comingAndGoing();
    }

    private static void comingAndGoing() throws IllegalAccessException {
        SixFellows x = Roads.full();
        Room room = roomOf(x);
        for (int i = CALLS_TO_BEGIN; i < CALLS; i += 4) {
            x.done(0);
            Check.due("a task comes where one went", x.task(0, 0, 1, 5), Roads.FULL_TASKS - 1);
            x.wipe();
            Check.due("bytes come where others went", x.feed(0, 4), 4);
        }
        Check.holds("tasks and bytes that come and go take no more room", room.equals(roomOf(x)));
    }
}

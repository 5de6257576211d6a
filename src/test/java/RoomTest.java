import java.lang.reflect.Array;
import java.lang.reflect.Field;
import java.lang.reflect.Modifier;
import java.util.ArrayDeque;
import java.util.Collections;
import java.util.Deque;
import java.util.IdentityHashMap;
import java.util.Set;

/** All calls of one run live in one room: an object is small, and no call makes it any greater. */
public final class RoomTest {
    private static final int MOST_OBJECTS = 100;
    private static final int MOST_PARTS = 1000;

    private final Set<Object> found = Collections.newSetFromMap(new IdentityHashMap<>());
    private int parts;

    private RoomTest() {
    }

    public static void main(String[] args) throws IllegalAccessException {
        ThirdSon x = new ThirdSon();
        RoomTest made = measure(x);
        Check.due("few objects and arrays", made.found.size() <= MOST_OBJECTS ? 1 : 0, 1);
        Check.due("few fields and elements", made.parts <= MOST_PARTS ? 1 : 0, 1);
        oneCallOfEach(x);
        RoomTest used = measure(x);
        Check.due("objects and arrays behind all calls", used.found.size(), made.found.size());
        Check.due("fields and elements behind all calls", used.parts, made.parts);
        for (Object o : used.found) {
            Check.due("made with the object: " + o.getClass(), made.found.contains(o) ? 1 : 0, 1);
        }
        RoomTest other = measure(new ThirdSon());
        for (Object o : other.found) {
            Check.due("shared with another object: " + o.getClass(), made.found.contains(o) ? 1 : 0, 0);
        }
        Check.close("RoomTest");
    }

    private static RoomTest measure(ThirdSon x) throws IllegalAccessException {
        RoomTest room = new RoomTest();
        Deque<Object> open = new ArrayDeque<>();
        room.add(x, open);
        while (!open.isEmpty()) {
            Object o = open.pop();
            if (o.getClass().isArray()) {
                room.addElements(o, open);
            } else {
                room.addFields(o, open);
            }
        }
        return room;
    }

    private void add(Object o, Deque<Object> open) {
        if (o != null && found.add(o)) {
            open.push(o);
        }
    }

    private void addElements(Object array, Deque<Object> open) {
        int length = Array.getLength(array);
        parts += length;
        for (int i = 0; i < length && !array.getClass().getComponentType().isPrimitive(); i++) {
            add(Array.get(array, i), open);
        }
    }

    private void addFields(Object o, Deque<Object> open) throws IllegalAccessException {
        for (Field f : o.getClass().getDeclaredFields()) {
            if (Modifier.isStatic(f.getModifiers())) {
                continue;
            }
            parts++;
            if (!f.getType().isPrimitive()) {
                f.setAccessible(true);
                add(f.get(o), open);
            }
        }
    }

    private static void oneCallOfEach(ThirdSon x) {
        Check.due("text", Check.tell(x, "one;one 0;one 0;rule 1 0 any 0 last;rule 2 1 kin 0 third;"), 5);
        Check.tell(x, "?");
        x.fault();
        x.end(0);
        x.rule(0);
        x.one(0, 4);
        x.odd(0);
        x.law(0, 6);
        x.keep(0);
        x.keep(1);
        x.does(0);
        x.does(16);
        x.comes(1);
        x.tries(1, 3);
        x.hush(0, 0);
        x.weigh(0, 1);
        x.rank(0, 2);
        x.pick(0, 1);
        x.claim(0, 0, 3, 0);
        x.pivot(0);
        x.spoils(0);
        x.dead(2);
        x.least(0);
        x.who(0);
        x.via(0, 0);
        x.odds(5, 0, 0, 0);
        x.turn(0, 0);
        x.best(0, 0, 3, 2);
        x.see(0, 0);
        x.fits(0);
        x.forget(0);
        x.drift(1, 60, 0);
        for (int k = 0; k < 4; k++) {
            x.sheet(k, k % 3, 40);
            x.lay(k, 39, 5);
            x.read(k, k % 3, 39, 1);
        }
        x.torn();
        x.back(0);
        x.owner(0);
        x.by(0);
        x.count(6);
    }
}

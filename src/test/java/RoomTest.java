import java.lang.reflect.Array;
import java.lang.reflect.Field;
import java.lang.reflect.Modifier;
import java.util.ArrayDeque;
import java.util.Collections;
import java.util.Deque;
import java.util.IdentityHashMap;
import java.util.Set;

/**
 * LANGUAGE.md, rule 12 'keep it small': what a wire holds, and that no run of calls adds to it.
 * That its calls make nothing that they do not hold is LanguageTest's to see.
 */
final class RoomTest {
    private static final int MOST_OBJECTS = 100;
    private static final int MOST_PLACES = 4_000;
    private static final Due due = new Due("RoomTest");

    public static void main(String[] args) throws IllegalAccessException {
        RecordWire wire = new RecordWire();
        Room before = Room.of(wire);
        System.out.println("a new wire: " + before);
        due.is(before + ", few objects and arrays", before.objects() <= MOST_OBJECTS, true);
        due.is(before + ", few fields and elements", before.places() <= MOST_PLACES, true);
        useAll(wire);
        Room behind = Room.of(wire);
        due.is("behind 512 calls: objects and arrays", behind.objects(), before.objects());
        due.is("behind 512 calls: fields and elements", behind.places(), before.places());
        due.end();
    }

    /** 2 and 10 times 51 calls. */
    private static void useAll(RecordWire wire) {
        wire.setPsk(31, 255);
        wire.open();
        for (int round = 0; round < 10; round++) {
            for (int i = 0; i < 39; i++) {
                wire.put(i);
            }
            wire.send(round & 1);
            wire.put(9);
            wire.corrupt(wire.send(round & 1), 20, round);
            wire.deliver(0, 1);
            wire.deliver(1, 1);
            wire.rekey(round & 1);
            wire.got(0);
            wire.drop(1);
            wire.count(4);
            wire.init();
            wire.open();
        }
    }

    /** How many objects and arrays there are, and how many fields and elements in all of them. */
    private record Room(int objects, int places) {
        static Room of(Object first) throws IllegalAccessException {
            Set<Object> met = Collections.newSetFromMap(new IdentityHashMap<>());
            Deque<Object> open = new ArrayDeque<>();
            open.add(first);
            int places = 0;
            while (!open.isEmpty()) {
                Object next = open.pop();
                if (met.add(next)) {
                    places += next.getClass().isArray() ? elements(next, open) : fields(next, open);
                }
            }
            return new Room(met.size(), places);
        }

        private static int elements(Object row, Deque<Object> open) {
            int length = Array.getLength(row);
            for (int i = 0; row instanceof Object[] objects && i < length; i++) {
                open.push(objects[i]);
            }
            return length;
        }

        private static int fields(Object object, Deque<Object> open) throws IllegalAccessException {
            int count = 0;
            for (Field field : object.getClass().getDeclaredFields()) {
                if (!Modifier.isStatic(field.getModifiers())) {
                    count++;
                    field.setAccessible(true);
                    if (!field.getType().isPrimitive()) {
                        open.push(field.get(object));
                    }
                }
            }
            return count;
        }
    }
}

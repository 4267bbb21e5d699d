import java.lang.reflect.Array;
import java.lang.reflect.Field;
import java.lang.reflect.Modifier;
import java.util.ArrayDeque;
import java.util.Collections;
import java.util.Deque;
import java.util.IdentityHashMap;
import java.util.Set;

/**
 * The room that an object takes, counted from the object itself: little, and no more behind all its calls. (That calls make
 * nothing that is not kept is seen by LanguageTest: only constructors make something.)
 */
public final class RoomTest {
    private static final int OBJECTS_MOST = 300, FIELDS_MOST = 2500;

    private int objects;
    private int fields;

    public static void main(String[] args) throws IllegalAccessException {
        AntBand x = new AntBand();
        RoomTest fresh = roomOf(x);
        Check.due("objects and arrays: " + fresh.objects, fresh.objects <= OBJECTS_MOST ? 1 : 0, 1);
        Check.due("fields and elements: " + fresh.fields, fresh.fields <= FIELDS_MOST ? 1 : 0, 1);
        use(x);
        RoomTest used = roomOf(x);
        Check.due("objects and arrays behind all calls", used.objects, fresh.objects);
        Check.due("fields and elements behind all calls", used.fields, fresh.fields);
        Check.end("RoomTest");
    }

    private static RoomTest roomOf(Object one) throws IllegalAccessException {
        RoomTest room = new RoomTest();
        Set<Object> seen = Collections.newSetFromMap(new IdentityHashMap<>());
        Deque<Object> open = new ArrayDeque<>();
        open.push(one);
        while (!open.isEmpty()) {
            Object at = open.pop();
            if (seen.add(at)) {
                room.objects++;
                room.fields += at.getClass().isArray() ? within(at, open) : of(at, open);
            }
        }
        return room;
    }

    private static int within(Object array, Deque<Object> open) {
        int length = Array.getLength(array);
        for (int i = 0; i < length && !array.getClass().getComponentType().isPrimitive(); i++) {
            push(Array.get(array, i), open);
        }
        return length;
    }

    private static int of(Object one, Deque<Object> open) throws IllegalAccessException {
        int many = 0;
        for (Field field : one.getClass().getDeclaredFields()) {
            if (!Modifier.isStatic(field.getModifiers())) {
                many++;
                field.setAccessible(true);
                if (!field.getType().isPrimitive()) {
                    push(field.get(one), open);
                }
            }
        }
        return many;
    }

    private static void push(Object one, Deque<Object> open) {
        if (one != null) {
            open.push(one);
        }
    }

    /** Some 512 calls: a WALL as great as there is, all ROWS, more ACTS than are kept, and what is dearest. */
    private static void use(AntBand x) {
        String text = "w99;g99;g98;g97;g96;g95;p20,0,9;t20,10,9;q20,20,9;b20,90,9;u20,95,9;p1,0,1;";
        Check.due("7: wall", Check.read(x, text), 6);
        int made = text.length() + 1;
        for (int row = 0; row <= 7; row++) {
            x.row(row, row % 3, 40);
        }
        x.image(0);
        x.image(1);
        made += 10;
        for (int ant = 0; made + 8 <= 512; ant = (ant + 1) % 6, made += 8) {
            x.minutes(3);
            x.order(ant, 0, -1);
            x.wind(ant, 8, 5, 0);
            x.who(ant, 1, 0, 0, 12);
            x.ask(ant, 0);
            x.drawn(99, 7, 0);
            x.pullFor(ant, 99);
            x.restore(made % 2);
        }
    }
}

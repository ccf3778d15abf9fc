import java.lang.reflect.Array;
import java.lang.reflect.Field;
import java.lang.reflect.Modifier;
import java.util.ArrayDeque;
import java.util.Collections;
import java.util.IdentityHashMap;
import java.util.Set;

/**
 * All calls of one run live in one room of 600,000 objects and 7.3 million fields and elements: a new object takes
 * little of it, and no call takes more (SourceTests: nothing is made but in constructors).
 */
public final class RoomTests {
    private static final int MOST_OBJECTS = 100, MOST_PARTS = 3000;

    private static int objects, parts;

    public static void main(String[] args) throws IllegalAccessException {
        Due.says("the room that a new object takes");
        CrossroadsChoose x = new CrossroadsChoose();
        measure(x);
        int objectsAtFirst = objects, partsAtFirst = parts;
        Due.due(objects + " objects: few", objects <= MOST_OBJECTS ? 1 : 0, 1);
        Due.due(parts + " fields and elements: few", parts <= MOST_PARTS ? 1 : 0, 1);
        Due.says("the room that an object takes behind its calls");
        use(x);
        measure(x);
        Due.due("objects behind the calls", objects, objectsAtFirst);
        Due.due("fields and elements behind the calls", parts, partsAtFirst);
        Due.end("RoomTests");
    }

    private static void use(CrossroadsChoose x) {
        for (int i = 0; i < 7; i++) {
            x.road(i, i);
            x.body(i);
            x.keep(i % 6, i);
        }
        for (int i = 0; i < 50; i++) {
            x.mend(i % 6, 3, i);
            x.comes(i);
        }
        Due.tell(x, "l*2+w*w-p*d+c%(r+2)");
        Due.row(x, 0, 12, 1, 24, 2, 36, 3);
        x.row(1, 3, 60);
        x.day(0, 60, 1, 3);
        x.ahead(500, -1);
        x.again(300);
        x.sit(12, 0);
        x.power(1, 0);
        x.winning(2);
        x.liking(0, 1, 0);
        x.waited(0, 1, 1);
        x.drawn(1, 3060, 2);
        x.image();
        x.back();
        x.undo();
        x.redo();
        x.act(6, 3, 5);
    }

    /** Counts what hangs on an object, itself too: objects and arrays, and their fields and elements. */
    private static void measure(Object from) throws IllegalAccessException {
        Set<Object> met = Collections.newSetFromMap(new IdentityHashMap<>());
        ArrayDeque<Object> left = new ArrayDeque<>();
        left.add(from);
        met.add(from);
        parts = 0;
        while (!left.isEmpty()) {
            Object of = left.remove();
            if (of.getClass().isArray()) {
                parts += Array.getLength(of);
                for (int i = 0; i < Array.getLength(of) && !of.getClass().getComponentType().isPrimitive(); i++) {
                    meet(Array.get(of, i), met, left);
                }
                continue;
            }
            for (Field field : of.getClass().getDeclaredFields()) {
                if (Modifier.isStatic(field.getModifiers())) {
                    continue;
                }
                parts++;
                field.setAccessible(true);
                if (!field.getType().isPrimitive()) {
                    meet(field.get(of), met, left);
                }
            }
        }
        objects = met.size();
    }

    private static void meet(Object of, Set<Object> met, ArrayDeque<Object> left) {
        if (of != null && met.add(of)) {
            left.add(of);
        }
    }
}

import java.lang.reflect.Method;
import java.lang.reflect.Modifier;
import java.util.ArrayList;
import java.util.Arrays;
import java.util.List;

/**
 * "What is answered so changes nothing": each call with edges of its arguments, on one of two like objects; if it
 * is refused (or only asks, in thought), both answer all that can be asked alike.
 */
public final class RefusalTests extends Edges {
    private static final List<String> ASKING = List.of("of", "pull", "has", "last", "day", "unlike", "how", "ahead",
        "again", "green", "second", "sit", "power", "winning", "more", "whatever", "least", "judge", "liking", "waited",
        "fair", "drawn", "led", "trace", "element", "taken", "count");
    private static final List<String> DOING = List.of("road", "roads", "mend", "feed", "comes", "send", "back", "undo",
        "redo", "body", "keep", "row", "put", "shift");
    private static final long[] FEW = {MIN, -1, 0, 6, MAX}, MANY = {MIN, -101, -2, -1, 0, 1, 2, 5, 6, 8, 60, 61, 99,
        100, 256, 300, 3061, MAX};
    private static final int STATES = 4;

    private static int state;

    public static void main(String[] args) throws Exception {
        for (String name : ASKING) {
            tryAll(name, true);
        }
        for (String name : DOING) {
            tryAll(name, false);
        }
        noTextChanges();
        noActChanges();
        allNamed();
        Due.end("RefusalTests");
    }

    /** Objects of unlike states: new, full, in the midst of things, and with rows that are no days. */
    private static CrossroadsChoose made() {
        CrossroadsChoose x = new CrossroadsChoose();
        if (state == 0) {
            return x;
        }
        int many = state == 1 ? 6 : 3;
        for (int i = 0; i < many; i++) {
            x.road(9 - i, 10 * i - 20);
        }
        x.image();
        for (int i = 0; i < (state == 1 ? 42 : 5); i++) {
            x.mend(i % 3, i % 3, i % 7);
        }
        x.undo();
        x.undo();
        for (int i = 0; i < (state == 1 ? 120 : 3); i++) {
            x.feed("7-w".charAt(i % 3));
        }
        for (int i = 0; i < (state == 1 ? 50 : 8); i++) {
            x.body(i % 8);
        }
        x.comes(5);
        x.comes(80);
        x.send(1);
        x.act(5, 3, 4);
        shelves(x);
        return x;
    }

    private static void shelves(CrossroadsChoose x) {
        int first = state == 3 ? 1 : 0;
        x.row(0, first, 6);
        x.row(1, 0, 4);
        x.row(2, 3, 3);
        x.keep(3, 5);
        for (int i = 0; i < 6; i++) {
            x.put(0, i, 10 * i + 3);
            x.put(1, i, state == 2 ? i % 2 : 50 * i);
            x.put(2, i, -i);
        }
    }

    /** All that can be asked, and at the end what can be found out by deeds alone: some 200 calls. */
    private static List<Long> all(CrossroadsChoose x) {
        List<Long> all = new ArrayList<>();
        for (int what = 0; what < 8; what++) {
            for (int number = 0; number < 6; number++) {
                all.add((long) x.of(number, what));
            }
        }
        for (int what = 0; what < 5; what++) {
            all.add((long) x.count(what));
            all.add((long) x.led(what));
        }
        for (int i = 0; i < 11; i++) {
            all.add((long) x.trace(i));
        }
        for (int shelf = 0; shelf < 6; shelf++) {
            all.add((long) x.taken(shelf, 0));
            for (int i = 0; i < 7; i++) {
                all.add(x.element(shelf, i));
            }
            all.add((long) x.put(shelf, 1, (1L << 40) + (1L << 20) + 300));
            all.add(x.element(shelf, 1));
        }
        all.add((long) x.pull(1, 35));
        deeds(x, all);
        return all;
    }

    private static void deeds(CrossroadsChoose x, List<Long> all) {
        all.add((long) x.redo());
        all.add((long) x.redo());
        all.add((long) x.redo());
        for (int i = 0; i < 4; i++) {
            all.add((long) x.undo());
            all.add((long) x.of(i % 3, 0) * 1000 + x.of(i % 3, 1));
        }
        all.add((long) x.law());
        all.add((long) x.pull(0, 35));
        all.add((long) x.comes(35));
        all.add((long) x.back());
        for (int road = 0; road < 6; road++) {
            all.add((long) x.of(road, 3));
        }
        all.add((long) x.led(3));
        all.add((long) x.road(4, 4));
        all.add((long) x.body(7));
        all.add((long) x.feed('4'));
    }

    private static Method named(String name) {
        for (Method m : CrossroadsChoose.class.getDeclaredMethods()) {
            if (m.getName().equals(name) && Modifier.isPublic(m.getModifiers())) {
                return m;
            }
        }
        throw new IllegalStateException("no method " + name);
    }

    private static long answer(Method m, CrossroadsChoose x, long[] with) throws Exception {
        Object[] args = new Object[with.length];
        for (int i = 0; i < args.length; i++) {
            boolean isLong = m.getParameterTypes()[i] == long.class;
            args[i] = isLong ? (Object) with[i] : (Object) (int) with[i];
        }
        return ((Number) m.invoke(x, args)).longValue();
    }

    private static boolean isRefused(String name, long got) {
        if (name.equals("mend")) {
            return got == VOID;
        }
        return got < 0 || name.equals("roads") && got == 0;
    }

    private static void tryAll(String name, boolean asks) throws Exception {
        says((asks ? "what is asked changes nothing: " : "what is refused changes nothing: ") + name);
        Method m = named(name);
        int many = m.getParameterCount();
        long[] edges = many <= 2 ? MANY : FEW;
        int ways = 1;
        for (int i = 0; i < many; i++) {
            ways *= edges.length;
        }
        for (state = 0; state < STATES; state++) {
            List<Long> want = all(made());
            for (int way = 0; way < ways; way++) {
                long[] with = new long[many];
                for (int i = 0, rest = way; i < many; i++, rest /= edges.length) {
                    with[i] = edges[rest % edges.length];
                }
                CrossroadsChoose x = made();
                if (isRefused(name, answer(m, x, with)) || asks) {
                    due("like objects behind " + name + Arrays.toString(with) + ", state " + state, all(x).equals(want) ? 1 : 0, 1);
                }
            }
        }
    }

    /** A fault takes THE TAPE alone. */
    private static void noTextChanges() {
        says("law() of a FAULT changes nothing but THE TAPE");
        for (state = 0; state < STATES; state++) {
            for (String text : new String[] {"", "l+", "(((((((1", "1;2;3;x", "0?9;9;"}) {
                CrossroadsChoose x = made(), y = made();
                x.law();
                y.law();
                List<Long> want = all(y);
                due("law " + text, tell(x, text) <= -100 ? 1 : 0, 1);
                due("like objects behind " + text + ", state " + state, all(x).equals(want) ? 1 : 0, 1);
            }
        }
    }

    /** An act changes the trace alone. */
    private static void noActChanges() {
        says("act() changes nothing but THE TRACE");
        for (state = 0; state < STATES; state++) {
            for (int body = -1; body < 51; body++) {
                CrossroadsChoose x = made(), y = made();
                x.act(body, Math.floorMod(body, 4), 9);
                x.act(5, 3, 4);
                y.act(5, 3, 4);
                due("like objects behind act of " + body + ", state " + state, all(x).equals(all(y)) ? 1 : 0, 1);
            }
        }
    }

    private static void allNamed() {
        says("each call of the face is tried");
        for (Method m : CrossroadsChoose.class.getDeclaredMethods()) {
            if (Modifier.isPublic(m.getModifiers())) {
                boolean other = List.of("law", "act", "image").contains(m.getName());
                due(m.getName(), ASKING.contains(m.getName()) || DOING.contains(m.getName()) || other ? 1 : 0, 1);
            }
        }
    }
}

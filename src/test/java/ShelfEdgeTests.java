/** The edges of promises 36 to 45 (acts, shelves): each sentence that names one, by a test of its own. */
public final class ShelfEdgeTests extends Edges {
    private static final int WANTS = 0, WAITS = 1, TAKES = 2, TELLS = 3;

    public static void main(String[] args) {
        body();
        actOfWhatThereIsNot();
        bodiesOfActs();
        actsOfAllKinds();
        actsThatWrap();
        trace();
        keep();
        row();
        put();
        lowestBits();
        element();
        shift();
        shiftEdges();
        shiftRefuses();
        taken();
        count();
        Due.end("ShelfEdgeTests");
    }

    private static void body() {
        says("Promise 36: a KIND (0 .. 7), else BAD");
        CrossroadsChoose x = new CrossroadsChoose();
        for (int kind : new int[] {-1, 8, MIN, MAX}) {
            due("body(" + kind + ")", x.body(kind), BAD);
        }
        due("count(3)", x.count(3), 0);
        says("BODIES 0 .. 49: its number");
        for (int i = 0; i < 50; i++) {
            due("body", x.body(i % 8), i);
        }
        says("Promise 36: FULL");
        due("the 51st", x.body(0), FULL);
        due("count(3)", x.count(3), 50);
        says("Promise 36: BAD ahead of FULL");
        due("body(8)", x.body(8), BAD);
        due("body(-1)", x.body(-1), BAD);
        says("BODIES 0 .. 49: the latest acts by its number");
        due("act(49, 0, 1)", x.act(49, WANTS, 1), 53);
        due("keep(0, 49)", x.keep(0, 49), 1);
        due("taken(0, 1)", x.taken(0, 1), 1);
    }

    private static void actOfWhatThereIsNot() {
        CrossroadsChoose x = new CrossroadsChoose();
        says("Promise 37: 0, and no TRACE then: no BODY at all");
        due("act(0, 0, 7)", x.act(0, WANTS, 7), 0);
        due("trace(0)", x.trace(0), BAD);
        x.body(0);
        x.body(0);
        for (int body : new int[] {-1, 2, 50, MIN, MAX}) {
            says("Promise 37: 0, and no TRACE then: no BODY " + body);
            due("act(1, 3, 7)", x.act(1, TELLS, 7), 16);
            due("act(" + body + ", 0, 7)", x.act(body, WANTS, 7), 0);
            due("trace(0)", x.trace(0), BAD);
            due("count(4)", x.count(4), 0);
        }
        for (int act : new int[] {-1, 4, MIN, MAX}) {
            says("Promise 37: 0, and no TRACE then: no ACT " + act);
            due("act(1, 3, 7)", x.act(1, TELLS, 7), 16);
            due("act(1, " + act + ", 7)", x.act(1, act, 7), 0);
            due("trace(0)", x.trace(0), BAD);
            due("count(4)", x.count(4), 0);
        }
    }

    /** One body of each kind, whose number is its kind. */
    private static CrossroadsChoose ofEachKind() {
        CrossroadsChoose x = new CrossroadsChoose();
        for (int kind = 0; kind < 8; kind++) {
            x.body(kind);
        }
        return x;
    }

    private static void act(CrossroadsChoose x, int body, int act, int with, int want, int... bodies) {
        String call = "act(" + body + ", " + act + ", " + with + ")";
        due(call, x.act(body, act, with), want);
        due(call + ", count(4)", x.count(4), bodies.length);
        for (int i = 0; i < bodies.length; i++) {
            due(call + ", trace(" + i + ")", x.trace(i), bodies[i]);
        }
        due(call + ", the TRACE's end", x.trace(bodies.length), BAD);
    }

    /** Each body of an act, as Terms 5 tells it, with x 5 (and n the kind). */
    private static void bodiesOfActs() {
        CrossroadsChoose x = ofEachKind();
        says("1 wants: x + n (WANTS, an interface of WAY)");
        act(x, 0, WANTS, 5, 5, 1);
        act(x, 2, WANTS, 5, 7, 1);
        act(x, 3, WANTS, 5, 8, 1);
        act(x, 5, WANTS, 5, 10, 1);
        says("10 waits: wants(x) * 2");
        act(x, 0, WAITS, 5, 10, 10, 1);
        says("11 takes: x ^ n");
        act(x, 0, TAKES, 5, 5, 11);
        act(x, 1, TAKES, 5, 4, 11);
        act(x, 2, TAKES, 5, 7, 11);
        act(x, 4, TAKES, 5, 1, 11);
        act(x, 6, TAKES, 5, 3, 11);
        act(x, 7, TAKES, 5, 2, 11);
        says("2 tells: waits(x) - takes(1) (TELLS, of WAY)");
        act(x, 0, TELLS, 5, 10 - 1, 2, 10, 1, 11);
        says("DUSTY: 20 wants: super.wants(x) + 3");
        act(x, 1, WANTS, 5, 5 + 1 + 3, 20, 1);
        says("GREEN: 30 waits: -super.waits(x)");
        act(x, 2, WAITS, 5, -(5 + 2) * 2, 30, 10, 1);
        says("BANK: 40 takes: super.takes(x) * 3");
        act(x, 3, TAKES, 5, (5 ^ 3) * 3, 40, 11);
        says("BANK: 41 waits: super.waits(x + 1)");
        act(x, 3, WAITS, 5, -(6 + 3) * 2, 41, 30, 10, 1);
        says("LANE: 50 tells: super.tells(x) ^ 5");
        act(x, 4, TELLS, 5, ((5 + 4 + 3) * 2 - (1 ^ 4)) ^ 5, 50, 2, 10, 20, 1, 11);
        says("CHAPEL: 60 takes: super.takes(x) - wants(2)");
        act(x, 5, TAKES, 6, (6 ^ 5) * 3 - (2 + 5), 60, 40, 11, 1);
        says("CHAPEL: 61 tells: super.tells(x) + 1");
        act(x, 5, TELLS, 5, -(6 + 5) * 2 - ((1 ^ 5) * 3 - 7) + 1, 61, 2, 41, 30, 10, 1, 60, 40, 11, 1);
        says("ELM: 70 wants: super.wants(x) * 2");
        act(x, 6, WANTS, 5, (5 + 6) * 2, 70, 1);
        says("PIG: 80 waits: super.waits(x) + takes(2)");
        act(x, 7, WAITS, 5, ((5 + 7) * 2 - 1) * 2 + (2 ^ 7), 80, 10, 81, 70, 1, 11);
        says("PIG: 81 wants: super.wants(x) - 1");
        act(x, 7, WANTS, 5, (5 + 7) * 2 - 1, 81, 70, 1);
    }

    private static void actsOfAllKinds() {
        CrossroadsChoose x = ofEachKind();
        says("the body of its own KIND, or of the next KIND above that has one");
        act(x, 1, WAITS, 5, (5 + 1 + 3) * 2, 10, 20, 1);
        act(x, 4, WANTS, 5, 5 + 4 + 3, 20, 1);
        act(x, 4, WAITS, 5, (5 + 4 + 3) * 2, 10, 20, 1);
        act(x, 5, WAITS, 5, -(6 + 5) * 2, 41, 30, 10, 1);
        act(x, 6, WAITS, 5, (5 + 6) * 2 * 2, 10, 70, 1);
        act(x, 1, TELLS, 5, (5 + 1 + 3) * 2, 2, 10, 20, 1, 11);
        act(x, 2, TELLS, 5, -(5 + 2) * 2 - (1 ^ 2), 2, 30, 10, 1, 11);
        act(x, 3, TELLS, 5, -(6 + 3) * 2 - (1 ^ 3) * 3, 2, 41, 30, 10, 1, 40, 11);
        act(x, 6, TELLS, 5, (5 + 6) * 4 - (1 ^ 6), 2, 10, 70, 1, 11);
        act(x, 7, TELLS, 5, 46 + 5 - (1 ^ 7), 2, 80, 10, 81, 70, 1, 11, 11);
        says("n its number: two of one KIND, kept one behind the other");
        x.body(1);
        act(x, 8, WANTS, 5, 5 + 8 + 3, 20, 1);
        act(x, 8, TAKES, 5, 5 ^ 8, 11);
    }

    private static void actsThatWrap() {
        CrossroadsChoose x = ofEachKind();
        says("ACTS with x (an int that wraps)");
        act(x, 1, WANTS, MAX, MAX + 4, 20, 1);
        act(x, 0, WAITS, MAX, -2, 10, 1);
        act(x, 0, WAITS, MIN, 0, 10, 1);
        act(x, 0, TAKES, MIN, MIN, 11);
        act(x, 3, WAITS, MAX, -(MIN + 3) * 2, 41, 30, 10, 1);
        act(x, 3, TAKES, MAX, (MAX ^ 3) * 3, 40, 11);
        act(x, 7, WANTS, MIN, 13, 81, 70, 1);
        act(x, 2, WAITS, 1 << 30, -((1 << 30) + 2) * 2, 30, 10, 1);
        act(x, 4, TELLS, -12, ((-12 + 7) * 2 - 5) ^ 5, 50, 2, 10, 20, 1, 11);
    }

    private static void trace() {
        CrossroadsChoose x = ofEachKind();
        says("THE TRACE: of no act: BAD");
        due("trace(0)", x.trace(0), BAD);
        says("THE TRACE: the i-th body: 0 on, else BAD");
        x.act(5, TELLS, 1);
        due("trace(0)", x.trace(0), 61);
        due("trace(9)", x.trace(9), 1);
        for (int i : new int[] {10, 23, 24, 25, -1, MIN, MAX}) {
            due("trace(" + i + ")", x.trace(i), BAD);
        }
        says("THE TRACE: of the latest act() alone");
        x.act(0, TAKES, 1);
        due("trace(0)", x.trace(0), 11);
        due("trace(1)", x.trace(1), BAD);
        due("count(4)", x.count(4), 1);
        says("THE TRACE: other calls leave it as it is");
        x.body(0);
        x.keep(0, 0);
        x.taken(0, 0);
        due("trace(0)", x.trace(0), 11);
    }

    private static void keep() {
        CrossroadsChoose x = new CrossroadsChoose();
        says("Promise 39: no such BODY: BAD");
        due("of none", x.keep(0, 0), BAD);
        x.body(3);
        x.body(4);
        for (int body : new int[] {-2, 2, 50, MIN, MAX}) {
            due("keep(0, " + body + ")", x.keep(0, body), BAD);
        }
        due("still nothing", x.taken(0, 0), NOTHING_THERE);
        says("Promise 39: no such SHELF: BAD");
        for (int shelf : new int[] {-1, 6, MIN, MAX}) {
            due("keep(" + shelf + ", 0)", x.keep(shelf, 0), BAD);
            due("keep(" + shelf + ", -1)", x.keep(shelf, -1), BAD);
        }
        says("Promise 39: a BODY: 1, on each of SHELVES 0 .. 5");
        for (int shelf = 0; shelf < 6; shelf++) {
            due("keep(" + shelf + ", 1)", x.keep(shelf, 1), 1);
            due("taken(" + shelf + ", 4)", x.taken(shelf, 4), 4);
        }
        says("Promise 39: holds nothing (body -1): 1");
        due("keep(2, -1)", x.keep(2, -1), 1);
        due("taken(2, 0)", x.taken(2, 0), NOTHING_THERE);
        due("again", x.keep(2, -1), 1);
        due("taken(1, 0)", x.taken(1, 0), 4);
        says("a SHELF holds nothing, a BODY, or a ROW: the latest takes its place");
        x.row(2, 0, 3);
        due("a ROW", x.put(2, 2, 1), 1);
        x.keep(2, 0);
        due("a BODY", x.taken(2, 3), 3);
        due("no ROW any more", x.put(2, 2, 1), OTHER_KIND);
        x.row(2, 0, 3);
        due("a ROW", x.taken(2, 0), OTHER_KIND);
        due("of 0", x.element(2, 2), 0);
        x.keep(2, -1);
        due("nothing", x.put(2, 2, 1), NOTHING_THERE);
        says("what holds the same BODY twice holds it on both");
        x.keep(4, 0);
        x.keep(5, 0);
        x.keep(4, -1);
        due("taken(5, 3)", x.taken(5, 3), 3);
    }

    private static void row() {
        CrossroadsChoose x = new CrossroadsChoose();
        says("Promise 40: sort 0 .. 4, else BAD");
        for (int sort : new int[] {-1, 5, MIN, MAX}) {
            due("row(0, " + sort + ", 1)", x.row(0, sort, 1), BAD);
        }
        says("Promise 40: n above 60: BAD");
        for (int n : new int[] {61, 100, MAX}) {
            due("row(0, 0, " + n + ")", x.row(0, 0, n), BAD);
        }
        says("Promise 40: -14: a size below 0");
        for (int n : new int[] {-1, -60, MIN}) {
            due("row(0, 0, " + n + ")", x.row(0, 0, n), BELOW_ZERO);
        }
        says("Promise 40: no such SHELF: BAD");
        for (int shelf : new int[] {-1, 6, MIN, MAX}) {
            due("row(" + shelf + ", 0, 1)", x.row(shelf, 0, 1), BAD);
        }
        says("Promise 40: BAD ahead of -14");
        due("row(6, 0, -1)", x.row(6, 0, -1), BAD);
        due("row(0, 5, -1)", x.row(0, 5, -1), BAD);
        due("row(0, -1, -1)", x.row(0, -1, -1), BAD);
        due("nothing came", x.taken(0, 0), NOTHING_THERE);
        says("a ROW of 0 .. 60 elements, 0 at first (false)");
        for (int sort = 0; sort < 5; sort++) {
            due("row(" + sort + ", " + sort + ", 60)", x.row(sort, sort, 60), 1);
            for (int i = 0; i < 60; i += 59) {
                due("element(" + sort + ", " + i + ")", x.element(sort, i), 0);
            }
            due("element(" + sort + ", 60)", x.element(sort, 60), NONE);
            due("a row of none", x.row(sort, sort, 0), 1);
            due("element(" + sort + ", 0)", x.element(sort, 0), NONE);
        }
        says("a ROW of 0 elements is a ROW");
        due("put(0, 0, 1)", x.put(0, 0, 1), NO_PLACE);
        due("taken(0, 0)", x.taken(0, 0), OTHER_KIND);
        says("a ROW anew: 0 at first again");
        likeBytes(x, 0, 60, 9);
        x.row(0, 3, 60);
        for (int i = 0; i < 60; i++) {
            due("element(0, " + i + ")", x.element(0, i), 0);
        }
    }

    private static void put() {
        CrossroadsChoose x = new CrossroadsChoose();
        otherKinds(x);
        says("Promise 41: no such SHELF: BAD, ahead of -13");
        for (int shelf : new int[] {-1, 6, MIN, MAX}) {
            due("put(" + shelf + ", -1, 1)", x.put(shelf, -1, 1), BAD);
        }
        says("Promise 41: -11, ahead of -13");
        due("put(0, 0, 1)", x.put(0, 0, 1), NOTHING_THERE);
        due("put(0, -1, 1)", x.put(0, -1, 1), NOTHING_THERE);
        says("Promise 41: -12 (a BODY), ahead of -13");
        due("put(1, 0, 1)", x.put(1, 0, 1), OTHER_KIND);
        due("put(1, 60, 1)", x.put(1, 60, 1), OTHER_KIND);
        says("Promise 41: -13: a place that is not there, of each sort");
        x.row(0, 0, 9);
        for (int i : new int[] {-1, 9, 10, 60, MIN, MAX}) {
            due("put(0, " + i + ", 1)", x.put(0, i, 1), NO_PLACE);
            for (int shelf = 2; shelf <= 5; shelf++) {
                due("put(" + shelf + ", " + i + ", 1)", x.put(shelf, i, 1), NO_PLACE);
            }
        }
        for (int i = 0; i < 9; i++) {
            due("element(0, " + i + ")", x.element(0, i), 0);
        }
        says("Promise 41: the first and the last place: 1");
        due("put(0, 0, 7)", x.put(0, 0, 7), 1);
        due("put(0, 8, 8)", x.put(0, 8, 8), 1);
        due("element(0, 0)", x.element(0, 0), 7);
        due("element(0, 8)", x.element(0, 8), 8);
        due("element(0, 1)", x.element(0, 1), 0);
        says("Promise 41: the last place of 60");
        x.row(0, 0, 60);
        due("put(0, 59, 1)", x.put(0, 59, 1), 1);
        due("put(0, 60, 1)", x.put(0, 60, 1), NO_PLACE);
        due("element(0, 59)", x.element(0, 59), 1);
    }

    private static void kept(int sort, long v, long want) {
        CrossroadsChoose x = new CrossroadsChoose();
        x.row(0, sort, 1);
        due("put " + v, x.put(0, 0, v), 1);
        due("element of " + v, x.element(0, 0), want);
    }

    private static void lowestBits() {
        says("what is put in keeps its lowest bits: bytes");
        kept(0, 127, 127);
        kept(0, 128, -128);
        kept(0, -128, -128);
        kept(0, -129, 127);
        kept(0, 255, -1);
        kept(0, 256, 0);
        kept(0, Long.MIN_VALUE, 0);
        kept(0, Long.MAX_VALUE, -1);
        says("what is put in keeps its lowest bits: shorts");
        kept(1, 32767, 32767);
        kept(1, 32768, -32768);
        kept(1, -32769, 32767);
        kept(1, 65536, 0);
        kept(1, 200, 200);
        kept(1, Long.MAX_VALUE, -1);
        says("what is put in keeps its lowest bits: ints");
        kept(2, MAX, MAX);
        kept(2, 1L << 31, MIN);
        kept(2, MIN - 1L, MAX);
        kept(2, 1L << 32, 0);
        kept(2, (1L << 40) + 77, 77);
        kept(2, 70000, 70000);
        says("what is put in keeps all: longs");
        kept(3, Long.MAX_VALUE, Long.MAX_VALUE);
        kept(3, Long.MIN_VALUE + 1, Long.MIN_VALUE + 1);
        kept(3, Long.MIN_VALUE, Long.MIN_VALUE);
        kept(3, 1L << 40, 1L << 40);
        says("a boolean: whether it is not 0; 1 or 0");
        kept(4, 0, 0);
        kept(4, 1, 1);
        kept(4, 2, 1);
        kept(4, 256, 1);
        kept(4, -1, 1);
        kept(4, 1L << 40, 1);
        kept(4, Long.MIN_VALUE, 1);
        says("a boolean becomes false again");
        CrossroadsChoose x = new CrossroadsChoose();
        x.row(0, 4, 2);
        x.put(0, 1, 5);
        x.put(0, 1, 0);
        due("element(0, 1)", x.element(0, 1), 0);
    }

    private static void element() {
        CrossroadsChoose x = new CrossroadsChoose();
        otherKinds(x);
        says("Promise 42: Long.MIN_VALUE: BAD");
        for (int shelf : new int[] {-1, 6, MIN, MAX}) {
            due("element(" + shelf + ", 0)", x.element(shelf, 0), NONE);
        }
        says("Promise 42: Long.MIN_VALUE: -11");
        due("element(0, 0)", x.element(0, 0), NONE);
        says("Promise 42: Long.MIN_VALUE: -12");
        due("element(1, 0)", x.element(1, 0), NONE);
        says("Promise 42: Long.MIN_VALUE: -13");
        for (int shelf = 2; shelf <= 5; shelf++) {
            for (int i : new int[] {-1, 9, 60, MIN, MAX}) {
                due("element(" + shelf + ", " + i + ")", x.element(shelf, i), NONE);
            }
            due("element(" + shelf + ", 8)", x.element(shelf, 8), 0);
        }
    }

    private static void elements(CrossroadsChoose x, int shelf, int... want) {
        for (int i = 0; i < want.length; i++) {
            due("element(" + shelf + ", " + i + ")", x.element(shelf, i), want[i]);
        }
        due("element(" + shelf + ", " + want.length + ")", x.element(shelf, want.length), NONE);
    }

    private static void shift() {
        CrossroadsChoose x = new CrossroadsChoose();
        says("Promise 43: n elements of a ROW from i on come to another one from j on: n");
        bytes(x, 0, 1, 2, 3, 4, 5);
        x.row(1, 0, 4);
        due("shift(0, 1, 1, 2, 2)", x.shift(0, 1, 1, 2, 2), 2);
        elements(x, 1, 0, 0, 2, 3);
        elements(x, 0, 1, 2, 3, 4, 5);
        says("Promise 43: (or the same), as they all were before: upward");
        due("shift(0, 0, 0, 1, 4)", x.shift(0, 0, 0, 1, 4), 4);
        elements(x, 0, 1, 1, 2, 3, 4);
        says("Promise 43: (or the same), as they all were before: downward");
        bytes(x, 0, 1, 2, 3, 4, 5);
        due("shift(0, 1, 0, 0, 4)", x.shift(0, 1, 0, 0, 4), 4);
        elements(x, 0, 2, 3, 4, 5, 5);
        says("Promise 43: to where they are");
        due("shift(0, 0, 0, 0, 5)", x.shift(0, 0, 0, 0, 5), 5);
        elements(x, 0, 2, 3, 4, 5, 5);
        for (int sort = 0; sort < 5; sort++) {
            says("Promise 43: of like sorts: " + sort);
            x.row(2, sort, 3);
            x.row(3, sort, 3);
            x.put(2, 0, 1);
            x.put(2, 2, 1);
            due("shift(2, 0, 3, 0, 3)", x.shift(2, 0, 3, 0, 3), 3);
            elements(x, 3, 1, 0, 1);
        }
        says("Promise 43: longs whole");
        x.row(2, 3, 1);
        x.row(3, 3, 1);
        x.put(2, 0, Long.MAX_VALUE);
        x.shift(2, 0, 3, 0, 1);
        due("element(3, 0)", x.element(3, 0), Long.MAX_VALUE);
        says("Promise 43: all 60");
        likeBytes(x, 0, 60, 9);
        x.row(1, 0, 60);
        due("shift(0, 0, 1, 0, 60)", x.shift(0, 0, 1, 0, 60), 60);
        due("element(1, 59)", x.element(1, 59), 9);
    }

    private static void shiftEdges() {
        CrossroadsChoose x = new CrossroadsChoose();
        bytes(x, 0, 1, 2, 3, 4, 5);
        x.row(1, 0, 3);
        int[][] wrong = {{-1, 0, 1}, {0, -1, 1}, {3, 0, 3}, {0, 0, 4}, {0, 1, 3}, {5, 0, 1}, {0, 3, 1}, {6, 0, 0},
            {0, 4, 0}, {-1, 0, 0}, {0, -1, 0}, {MIN, 0, 1}, {0, MIN, 1}, {MAX, 0, 1}, {0, MAX, 1}, {1, 0, MAX},
            {0, 1, MAX}, {MAX, MAX, MAX}, {MIN, MIN, 0}};
        for (int[] at : wrong) {
            says("Promise 43: -13: i " + at[0] + ", j " + at[1] + ", n " + at[2] + " of 5 and 3");
            due("shift", x.shift(0, at[0], 1, at[1], at[2]), NO_PLACE);
            elements(x, 1, 0, 0, 0);
        }
        for (int n : new int[] {-1, -2, MIN}) {
            says("Promise 43: -13 (n below 0, too): " + n);
            due("shift", x.shift(0, 0, 1, 0, n), NO_PLACE);
            due("shift from farther on", x.shift(0, 3, 1, 3, n), NO_PLACE);
            due("shift of the same", x.shift(0, 3, 0, 3, n), NO_PLACE);
        }
        says("Promise 43: up to the ends");
        due("shift(0, 2, 1, 0, 3)", x.shift(0, 2, 1, 0, 3), 3);
        elements(x, 1, 3, 4, 5);
        says("Promise 43: none of them, at the ends: 0");
        due("shift(0, 5, 1, 3, 0)", x.shift(0, 5, 1, 3, 0), 0);
        due("shift(0, 0, 1, 0, 0)", x.shift(0, 0, 1, 0, 0), 0);
        elements(x, 1, 3, 4, 5);
        says("Promise 43: of empty ROWS");
        x.row(1, 0, 0);
        due("shift(1, 0, 1, 0, 0)", x.shift(1, 0, 1, 0, 0), 0);
        due("shift(1, 0, 0, 0, 1)", x.shift(1, 0, 0, 0, 1), NO_PLACE);
    }

    private static void shiftRefuses() {
        CrossroadsChoose x = new CrossroadsChoose();
        otherKinds(x);
        says("Promise 43: no such SHELF: BAD, ahead of -11, -12, -13");
        for (int shelf : new int[] {-1, 6, MIN, MAX}) {
            for (int other = 0; other < 6; other++) {
                due("shift(" + shelf + ", 0, " + other + ", 0, -1)", x.shift(shelf, 0, other, 0, -1), BAD);
                due("shift(" + other + ", 0, " + shelf + ", 0, -1)", x.shift(other, 0, shelf, 0, -1), BAD);
            }
        }
        says("Promise 43: -11 (either), ahead of -12, -13");
        for (int other = 0; other < 6; other++) {
            due("shift(0, 0, " + other + ", 0, -1)", x.shift(0, 0, other, 0, -1), NOTHING_THERE);
            due("shift(" + other + ", 0, 0, 0, 1)", x.shift(other, 0, 0, 0, 1), NOTHING_THERE);
        }
        says("Promise 43: -12 (no ROWS), ahead of -13");
        for (int other = 1; other < 6; other++) {
            due("shift(1, 0, " + other + ", 0, -1)", x.shift(1, 0, other, 0, -1), OTHER_KIND);
            due("shift(" + other + ", 0, 1, 0, 1)", x.shift(other, 0, 1, 0, 1), OTHER_KIND);
        }
        says("Promise 43: -12 (no ROWS): a BODY and a ROW of bytes");
        x.row(0, 0, 9);
        for (int n = -1; n <= 1; n++) {
            due("shift(1, 0, 0, 0, " + n + ")", x.shift(1, 0, 0, 0, n), OTHER_KIND);
            due("shift(0, 0, 1, 0, " + n + ")", x.shift(0, 0, 1, 0, n), OTHER_KIND);
        }
        says("Promise 43: -12 (no ROWS): a BODY where a ROW of bytes was");
        x.row(1, 0, 9);
        x.keep(1, 0);
        for (int n = -1; n <= 1; n++) {
            due("shift(1, 0, 0, 0, " + n + ")", x.shift(1, 0, 0, 0, n), OTHER_KIND);
            due("shift(0, 0, 1, 0, " + n + ")", x.shift(0, 0, 1, 0, n), OTHER_KIND);
        }
        says("Promise 43: -12 (of unlike sorts), ahead of -13");
        int[] rows = {0, 2, 3, 4, 5};
        for (int shelf : rows) {
            for (int other : rows) {
                due("shift(" + shelf + ", 0, " + other + ", 0, 1)", x.shift(shelf, 0, other, 0, 1),
                    shelf == other ? 1 : OTHER_KIND);
                due("shift(" + shelf + ", 0, " + other + ", 0, -1)", x.shift(shelf, 0, other, 0, -1),
                    shelf == other ? NO_PLACE : OTHER_KIND);
            }
        }
    }

    private static void taken() {
        CrossroadsChoose x = ofEachKind();
        String[] above = {"0", "10", "20", "320", "410", "5320", "60", "760"};
        for (int kind = 0; kind < 8; kind++) {
            says("taken for a BODY of KIND k, or under it: KIND " + kind);
            x.keep(0, kind);
            for (int k = 0; k < 8; k++) {
                due("taken(0, " + k + ")", x.taken(0, k), above[kind].indexOf('0' + k) >= 0 ? kind : OTHER_KIND);
            }
        }
        says("Promise 44: -12: a ROW");
        x.row(1, 0, 3);
        x.row(2, 3, 0);
        due("taken(1, 0)", x.taken(1, 0), OTHER_KIND);
        due("taken(2, 7)", x.taken(2, 7), OTHER_KIND);
        says("Promise 44: -11");
        due("taken(3, 0)", x.taken(3, 0), NOTHING_THERE);
        says("Promise 44: KIND k (0 .. 7), else BAD, ahead of -11, -12");
        for (int k : new int[] {-1, 8, MIN, MAX}) {
            for (int shelf = 0; shelf < 4; shelf++) {
                due("taken(" + shelf + ", " + k + ")", x.taken(shelf, k), BAD);
            }
        }
        says("Promise 44: no such SHELF: BAD");
        for (int shelf : new int[] {-1, 6, MIN, MAX}) {
            due("taken(" + shelf + ", 0)", x.taken(shelf, 0), BAD);
        }
        says("a ROW that took the place of a BODY, a BODY that took the place of a ROW");
        x.row(0, 0, 1);
        due("taken(0, 7)", x.taken(0, 7), OTHER_KIND);
        x.keep(0, 2);
        due("taken(0, 2)", x.taken(0, 2), 2);
    }

    private static void count() {
        says("Promise 45: what 0 .. 4, else BAD");
        CrossroadsChoose x = ofEachKind();
        for (int what : new int[] {-1, 5, MIN, MAX}) {
            due("count(" + what + ")", x.count(what), BAD);
        }
        says("Promise 45: 0 ROADS: 0 .. 6");
        for (int i = 0; i < 6; i++) {
            due("count(0)", x.count(0), i);
            x.road(1, 1);
        }
        due("count(0)", x.count(0), 6);
        says("Promise 45: 1 bytes on THE TAPE: 0 .. 120");
        for (int i = 0; i < 120; i++) {
            due("count(1)", x.count(1), i);
            x.feed(0);
        }
        due("count(1)", x.count(1), 120);
        says("Promise 45: 2 changes that may be UNDONE");
        x.mend(0, 0, 5);
        x.mend(0, 0, 6);
        due("count(2)", x.count(2), 2);
        x.undo();
        due("behind undo()", x.count(2), 1);
        x.redo();
        due("behind redo()", x.count(2), 2);
        says("Promise 45: 3 BODIES");
        due("count(3)", x.count(3), 8);
        says("Promise 45: 4 bodies that ran in the latest act()");
        due("count(4)", x.count(4), 0);
        x.act(5, TELLS, 1);
        due("count(4)", x.count(4), 10);
        x.act(0, WANTS, 1);
        due("count(4)", x.count(4), 1);
    }
}

/** The edges of promises 1 to 6 and of Terms 1's numbers: each sentence that names one, by a test of its own. */
public final class RoadEdgeTests extends Edges {
    private static final String[] NUMBERS = {"LIKES (0 .. 9)", "DUST (0 .. 9)", "WORTH (-99 .. 99)", "WAIT (0 .. 99)",
        "RUN (0 .. 9)", "STRAIGHT (0 .. 5)", "SIT (0 .. 9)", "QUOTA (1 .. 54)"};
    private static final int[] LEAST = {0, 0, -99, 0, 0, 0, 0, 1}, MOST = {9, 9, 99, 99, 9, 5, 9, 54};

    public static void main(String[] args) {
        constants();
        newObject();
        calls512();
        road();
        boundsOfNumbers();
        mend();
        roadsRefuse();
        roadsFromPlaces();
        roadsEnd();
        feed();
        runners();
        waits();
        Due.end("RoadEdgeTests");
    }

    private static void constants() {
        says("The face: BAD = -1, NOT = -2, FULL = -3, STATE = -5, VOID = -2000000000");
        due("BAD", CrossroadsChoose.BAD, -1);
        due("NOT", CrossroadsChoose.NOT, -2);
        due("FULL", CrossroadsChoose.FULL, -3);
        due("STATE", CrossroadsChoose.STATE, -5);
        due("VOID", CrossroadsChoose.VOID, -2000000000);
    }

    private static void newObject() {
        CrossroadsChoose x = new CrossroadsChoose();
        says("Promise 1: a crossing, no roads");
        due("count(0)", x.count(0), 0);
        due("of(0, 0)", x.of(0, 0), VOID);
        due("has(0)", x.has(0), NOT);
        says("RUN 8 at first");
        due("of(0, 4)", x.of(0, 4), 8);
        says("STRAIGHT 0 at first");
        due("of(0, 5)", x.of(0, 5), 0);
        says("SIT 2 at first");
        due("of(0, 6)", x.of(0, 6), 2);
        says("QUOTA 4 at first");
        due("of(0, 7)", x.of(0, 7), 4);
        says("SHELVES 0 .. 5 each hold nothing (at first)");
        for (int shelf = 0; shelf < 6; shelf++) {
            due("taken(" + shelf + ", 0)", x.taken(shelf, 0), NOTHING_THERE);
        }
        says("A new object: no bytes on THE TAPE, no changes, no bodies, none that ran, no image");
        for (int what = 1; what <= 4; what++) {
            due("count(" + what + ")", x.count(what), 0);
        }
        due("undo()", x.undo(), STATE);
        due("redo()", x.redo(), STATE);
        due("trace(0)", x.trace(0), BAD);
        due("back()", x.back(), STATE);
        says("LED: none at first, the latest ROAD NOT");
        for (int what = 0; what <= 4; what++) {
            due("led(" + what + ")", x.led(what), what == 4 ? NOT : 0);
        }
        says("Two objects are apart");
        CrossroadsChoose other = new CrossroadsChoose();
        other.road(1, 1);
        other.mend(0, 7, 9);
        due("roads of the first", x.count(0), 0);
        due("quota of the first", x.of(0, 7), 4);
    }

    private static void calls512() {
        says("An object is used for at most 512 calls: all of them hold");
        CrossroadsChoose x = new CrossroadsChoose();
        x.road(5, 1);
        for (int i = 1; i <= 510; i++) {
            due("comes, call " + (i + 1), x.comes(i % 100), 0);
        }
        due("led(3), call 512", x.led(3), 510);
    }

    private static void road() {
        says("ROADS 0 .. 5, as they come; Promise 2: its number");
        CrossroadsChoose x = new CrossroadsChoose();
        for (int i = 0; i < 6; i++) {
            due("road", x.road(i, -i), i);
            due("count(0)", x.count(0), i + 1);
        }
        due("likes of 5", x.of(5, 0), 5);
        due("of 6", x.of(6, 0), VOID);
        says("Promise 2: FULL: 6");
        due("the seventh", x.road(1, 1), FULL);
        due("count(0)", x.count(0), 6);
        due("worth of 5", x.of(5, 2), -5);
        says("Promise 2: BAD ahead of FULL");
        due("likes 10", x.road(10, 0), BAD);
        due("worth 100", x.road(0, 100), BAD);
        says("Promise 2: LIKES of 0 .. 9, else BAD");
        for (int likes : new int[] {-1, 10, 256, -10, MIN, MAX}) {
            x = new CrossroadsChoose();
            due("road(" + likes + ", 0)", x.road(likes, 0), BAD);
            due("count(0)", x.count(0), 0);
        }
        for (int likes = 0; likes <= 9; likes += 9) {
            due("road(" + likes + ", 0)", new CrossroadsChoose().road(likes, 0), 0);
        }
        says("Promise 2: WORTH of -99 .. 99, else BAD");
        for (int worth : new int[] {-100, 100, 256, MIN, MAX}) {
            x = new CrossroadsChoose();
            due("road(0, " + worth + ")", x.road(0, worth), BAD);
            due("count(0)", x.count(0), 0);
        }
        for (int worth = -99; worth <= 99; worth += 99) {
            x = new CrossroadsChoose();
            due("road(0, " + worth + ")", x.road(0, worth), 0);
            due("worth", x.of(0, 2), worth);
        }
        says("DUST 1 at first");
        due("of(0, 1)", x.of(0, 1), 1);
        says("WAIT 0 at first");
        x.comes(0);
        x.road(0, 0);
        x.send(0);
        x.road(0, 0);
        due("of(1, 3)", x.of(1, 3), 1);
        due("of(2, 3)", x.of(2, 3), 0);
    }

    private static void boundsOfNumbers() {
        for (int what = 0; what < 8; what++) {
            says("Terms 1: " + NUMBERS[what] + ", by mend()");
            CrossroadsChoose x = roads(5);
            int was = x.of(0, what);
            for (int v : new int[] {LEAST[what] - 1, MOST[what] + 1, -100, 100, 256 + was, MIN, MAX, VOID}) {
                due("mend(0, " + what + ", " + v + ")", x.mend(0, what, v), VOID);
                due("of(0, " + what + ")", x.of(0, what), was);
            }
            due("no change", x.count(2), 0);
            due("to the least", x.mend(0, what, LEAST[what]), was);
            due("the least", x.of(0, what), LEAST[what]);
            due("to the most", x.mend(0, what, MOST[what]), LEAST[what]);
            due("the most", x.of(0, what), MOST[what]);
        }
        says("WAIT 0 .. 99: a number of mend(), that a deed takes on from");
        CrossroadsChoose x = roads(9, 0);
        x.mend(1, 3, 98);
        x.send(0);
        due("behind 98", x.of(1, 3), 99);
    }

    private static void mend() {
        says("Promise 4: becomes v: what it was");
        CrossroadsChoose x = roads(1, 2, 3, 4, 5, 6);
        due("mend", x.mend(5, 0, 9), 6);
        due("mend again", x.mend(5, 0, 8), 9);
        due("mend of a worth below 0", x.mend(5, 2, -1), 0);
        due("mend of a worth below 0", x.mend(5, 2, -2), -1);
        due("the same number", x.mend(5, 2, -2), -2);
        says("Promises 4, 5: each number of each ROAD is its own");
        for (int road = 0; road < 6; road++) {
            for (int what = 0; what < 4; what++) {
                x.mend(road, what, 4 * ((road + what) % 2) + what);
            }
        }
        for (int what = 4; what < 8; what++) {
            x.mend(0, what, what - 3);
        }
        for (int road = 0; road < 6; road++) {
            for (int what = 0; what < 4; what++) {
                due("of(" + road + ", " + what + ")", x.of(road, what), 4 * ((road + what) % 2) + what);
            }
        }
        for (int what = 4; what < 8; what++) {
            due("of(0, " + what + ")", x.of(0, what), what - 3);
        }
        says("Promises 4, 5: RUN, STRAIGHT, SIT, QUOTA: number 0 for these, another: BAD (VOID)");
        for (int number : new int[] {1, 5, 6, -1, MIN, MAX}) {
            for (int what = 4; what < 8; what++) {
                due("mend(" + number + ", " + what + ", 5)", x.mend(number, what, 5), VOID);
                due("of(" + number + ", " + what + ")", x.of(number, what), VOID);
                due("of(0, " + what + ")", x.of(0, what), what - 3);
            }
        }
        noSuchNumber();
    }

    private static void noSuchNumber() {
        says("Promises 4, 5: of a ROAD that is not there: VOID");
        for (int many = 0; many <= 6; many += 2) {
            CrossroadsChoose x = roads(new int[many]);
            for (int number : new int[] {many, 6, -1, MIN, MAX}) {
                for (int what = 0; what < 4; what++) {
                    due("mend(" + number + ", " + what + ", 5)", x.mend(number, what, 5), VOID);
                    due("of(" + number + ", " + what + ")", x.of(number, what), VOID);
                }
            }
        }
        says("Promises 4, 5: what 0 to 7, else VOID");
        CrossroadsChoose x = roads(1, 2);
        for (int what : new int[] {-1, 8, MIN, MAX}) {
            for (int number = -1; number < 2; number++) {
                due("mend(" + number + ", " + what + ", 1)", x.mend(number, what, 1), VOID);
                due("of(" + number + ", " + what + ")", x.of(number, what), VOID);
            }
        }
        says("Promise 4: STRAIGHT: a ROAD, or one that is none yet");
        due("mend(0, 5, 5)", x.mend(0, 5, 5), 0);
        due("of(0, 5)", x.of(0, 5), 5);
        says("Promise 4: RUN and so on, without a ROAD too");
        x = new CrossroadsChoose();
        due("mend(0, 4, 0)", x.mend(0, 4, 0), 8);
        due("mend(0, 7, 54)", x.mend(0, 7, 54), 4);
    }

    private static void roadsRefuse() {
        says("Promise 3: n (1 .. 6), else BAD");
        CrossroadsChoose x = new CrossroadsChoose();
        x.row(0, 0, 18);
        for (int n : new int[] {0, 7, -1, MIN, MAX}) {
            due("roads(0, 0, " + n + ")", x.roads(0, 0, n), BAD);
        }
        due("count(0)", x.count(0), 0);
        due("n 1", x.roads(0, 0, 1), 1);
        x = new CrossroadsChoose();
        x.row(0, 0, 18);
        due("n 6", x.roads(0, 0, 6), 6);
        says("Promise 3: no such SHELF: BAD");
        for (int shelf : new int[] {-1, 6, MIN, MAX}) {
            due("roads(" + shelf + ", 0, 1)", x.roads(shelf, 0, 1), BAD);
        }
        says("Promise 3: -12 (no ROW of bytes)");
        x = new CrossroadsChoose();
        otherKinds(x);
        for (int shelf = 1; shelf <= 5; shelf++) {
            due("roads(" + shelf + ", 0, 1)", x.roads(shelf, 0, 1), OTHER_KIND);
        }
        due("count(0)", x.count(0), 0);
        says("roads(): -12 goes ahead of a place below 0");
        for (int shelf = 1; shelf <= 5; shelf++) {
            due("roads(" + shelf + ", -1, 1)", x.roads(shelf, -1, 1), OTHER_KIND);
        }
        says("Promise 3: BAD ahead of -12, of what is missing and of a place below 0");
        due("n of shorts", x.roads(2, 0, 7), BAD);
        due("n where nothing is", x.roads(0, -1, 0), BAD);
        says("Promise 3: a SHELF that holds nothing is missing: 0");
        due("roads(0, 0, 6)", x.roads(0, 0, 6), 0);
        due("roads(0, -1, 6)", x.roads(0, -1, 6), 0);
        x.row(0, 0, 3);
        x.keep(0, -1);
        due("nothing again", x.roads(0, 0, 1), 0);
    }

    private static void roadsFromPlaces() {
        says("Promise 3: 0 with i below 0");
        CrossroadsChoose x = new CrossroadsChoose();
        bytes(x, 0, 1, 2, 3, 4, 5, 6, 7, 8, 9);
        for (int i : new int[] {-1, -2, -3, MIN, MIN + 1}) {
            due("roads(0, " + i + ", 6)", x.roads(0, i, 6), 0);
        }
        due("count(0)", x.count(0), 0);
        says("ROADS FROM A ROW: from place i on");
        due("the last three", x.roads(0, 6, 1), 1);
        due("likes", x.of(0, 0), 7);
        due("dust", x.of(0, 1), 8);
        due("worth", x.of(0, 2), 9);
        due("a place that is no third one", x.roads(0, 1, 1), 1);
        due("likes", x.of(1, 0), 2);
        due("worth", x.of(1, 2), 4);
        says("ROADS FROM A ROW: n of them, though more are there");
        due("one of three", x.roads(0, 0, 1), 1);
        due("count(0)", x.count(0), 3);
        says("ROADS FROM A ROW: a WAIT of 0");
        x.comes(0);
        x.roads(0, 0, 1);
        due("wait", x.of(3, 3), 0);
        says("ROADS FROM A ROW: it ends where the row ends");
        for (int i : new int[] {9, 10, 60, MAX, MAX - 1, MAX - 2}) {
            due("roads(0, " + i + ", 6)", x.roads(0, i, 6), 0);
        }
        x.row(0, 0, 0);
        due("a row of none", x.roads(0, 0, 6), 0);
        x = new CrossroadsChoose();
        bytes(x, 0, 1, 2, 3, 4, 5, 6);
        due("two threes for six", x.roads(0, 0, 6), 2);
        says("ROADS FROM A ROW: the latest place of a long row");
        x.row(1, 0, 60);
        due("place 57", x.roads(1, 57, 6), 1);
        due("place 58", x.roads(1, 58, 6), 0);
    }

    private static void roadsEnd() {
        says("ROADS FROM A ROW: it ends within a three, too");
        for (int n = 1; n <= 8; n++) {
            CrossroadsChoose x = new CrossroadsChoose();
            x.row(0, 0, n);
            due("a row of " + n, x.roads(0, 0, 6), n / 3);
            due("count(0)", x.count(0), n / 3);
        }
        int[][] wrong = {{10, 1, 1}, {-1, 1, 1}, {1, 10, 1}, {1, -1, 1}, {1, 1, 100}, {1, 1, -100}};
        for (int[] three : wrong) {
            says("ROADS FROM A ROW: one is not as it may be " + java.util.Arrays.toString(three) + ": those ahead came");
            CrossroadsChoose x = new CrossroadsChoose();
            bytes(x, 0, 1, 2, 3, three[0], three[1], three[2], 4, 5, 6);
            due("roads", x.roads(0, 0, 3), 1);
            due("count(0)", x.count(0), 1);
            due("the wrong one", x.roads(0, 3, 1), 0);
        }
        says("ROADS FROM A ROW: the least and the most of LIKES, DUST, WORTH");
        CrossroadsChoose x = new CrossroadsChoose();
        bytes(x, 0, 0, 0, -99, 9, 9, 99);
        due("roads", x.roads(0, 0, 2), 2);
        int[] told = {0, 0, -99, 9, 9, 99};
        for (int i = 0; i < 6; i++) {
            due("of(" + i / 3 + ", " + i % 3 + ")", x.of(i / 3, i % 3), told[i]);
        }
        says("Bytes have their sign: 157 is WORTH -99, 156 is none");
        bytes(x, 0, 1, 1, 157, 1, 1, 156);
        due("roads", x.roads(0, 0, 2), 1);
        due("worth", x.of(2, 2), -99);
        says("ROADS FROM A ROW: ROADS are FULL: those ahead came");
        x.row(0, 0, 18);
        due("three more", x.roads(0, 0, 6), 3);
        due("count(0)", x.count(0), 6);
        due("none", x.roads(0, 0, 6), 0);
        due("count(0)", x.count(0), 6);
    }

    private static void feed() {
        says("Promise 6: a byte (0 .. 255), else BAD");
        CrossroadsChoose x = new CrossroadsChoose();
        for (int letter : new int[] {-1, 256, 300, MIN, MAX}) {
            due("feed(" + letter + ")", x.feed(letter), BAD);
        }
        due("count(1)", x.count(1), 0);
        due("feed(0)", x.feed(0), 1);
        due("feed(255)", x.feed(255), 2);
        says("Promise 6: how many it has");
        for (int i = 3; i <= 120; i++) {
            due("feed", x.feed('l'), i);
        }
        says("Promise 6: FULL (120)");
        due("the 121st", x.feed('l'), FULL);
        due("count(1)", x.count(1), 120);
        says("Promise 6: BAD ahead of FULL");
        due("feed(256)", x.feed(256), BAD);
        due("feed(-1)", x.feed(-1), BAD);
        says("Promise 6: what FULL refused is not there; THE TAPE has room behind law()");
        due("law()", x.law(), -100);
        due("feed", x.feed('7'), 1);
    }

    private static void runners() {
        says("A COMER is a code: 10 times PACE, and LOAD");
        CrossroadsChoose x = by("10*p+c", 1);
        for (int comer : new int[] {0, 9, 10, 47, 79, 99}) {
            due("pull(0, " + comer + ")", x.pull(0, comer), comer);
        }
        says("A COMER of PACE RUN or more (a runner)");
        for (int run = 0; run <= 9; run++) {
            x = roads(9, 0);
            x.mend(0, 5, 1);
            x.mend(0, 4, run);
            due("the first that runs, of RUN " + run, x.has(10 * run), 1);
            due("99 of RUN " + run, x.has(99), 1);
            if (run > 0) {
                due("the last that does not", x.has(10 * run - 1), 0);
            }
        }
        says("goes on by ROAD STRAIGHT, if it is there; else who WANTS him most has him");
        x = roads(0, 9);
        x.mend(0, 5, 2);
        due("ROAD 2 is none yet", x.has(99), 1);
        x.road(0, 0);
        due("ROAD 2 is there", x.has(99), 2);
        x.mend(0, 5, 5);
        due("ROAD 5 is none yet", x.has(99), 1);
        says("who runs is not asked: by a law, too");
        x = by("r=1?9;-999", 2);
        due("has(80)", x.has(80), 0);
        due("has(79)", x.has(79), 1);
        says("of like ones the least");
        due("all alike", roads(5, 5, 5).has(0), 0);
        due("two alike", roads(4, 5, 5).has(0), 1);
        due("alike below 0", by("-999", 3).has(0), 0);
        says("WANTS him most: also below 0");
        due("has", by("r=1?-5;-6", 3).has(0), 1);
        says("(No ROADS: he goes nowhere, nothing changes.)");
        x = new CrossroadsChoose();
        due("has(0)", x.has(0), NOT);
        due("has(99)", x.has(99), NOT);
        due("comes(99)", x.comes(99), STATE);
        due("led(0)", x.led(0), 0);
        due("led(1)", x.led(1), 0);
    }

    private static void waits() {
        says("The ROAD that has him: WAIT 0; all others: WAIT one more");
        CrossroadsChoose x = roads(9, 0, 0);
        x.mend(0, 3, 50);
        x.mend(2, 3, 7);
        x.comes(0);
        due("of(0, 3)", x.of(0, 3), 0);
        due("of(1, 3)", x.of(1, 3), 1);
        due("of(2, 3)", x.of(2, 3), 8);
        says("WAIT one more (99 at most)");
        x = by("r=0?1;0", 3);
        x.mend(1, 3, 98);
        x.mend(2, 3, 99);
        x.comes(0);
        due("behind 98", x.of(1, 3), 99);
        due("behind 99", x.of(2, 3), 99);
        x.comes(0);
        due("behind 99 again", x.of(1, 3), 99);
        says("ROAD STRAIGHT has its runners (WAIT 0, all others one more)");
        x = roads(0, 9);
        x.mend(0, 3, 4);
        due("comes(80)", x.comes(80), 0);
        due("of(0, 3)", x.of(0, 3), 0);
        due("of(1, 3)", x.of(1, 3), 1);
    }
}

import java.util.function.IntBinaryOperator;

/** The edges of promises 8 to 18 (comers in thought): each sentence that names one, by a test of its own. */
public final class ThoughtEdgeTests extends Edges {
    /** Comers of LOAD 0 to 5 go by the road of that number, where there is one. */
    private static final String BY_LOAD = "c=r?9;0";

    public static void main(String[] args) {
        pullAndHas();
        refusalsOfDays();
        refusalsOfDay();
        comersOfADay();
        last();
        dayNumbers();
        longest();
        unlike();
        how();
        ahead();
        aheadAnyCodes();
        aheadFirstByCodes();
        again();
        againLate();
        green();
        second();
        secondAnew();
        sit();
        Due.end("ThoughtEdgeTests");
    }

    private static void pullAndHas() {
        says("Promise 8: no such ROAD: VOID");
        CrossroadsChoose x = roads(4, 6);
        for (int road : new int[] {-1, 2, 6, MIN, MAX}) {
            due("pull(" + road + ", 0)", x.pull(road, 0), VOID);
        }
        due("pull(0, 0) without ROADS", roads().pull(0, 0), VOID);
        due("pull(1, 0)", x.pull(1, 0), 7);
        says("Promise 8: a COMER is a code 0 .. 99, else VOID");
        for (int comer : new int[] {-1, 100, MIN, MAX}) {
            due("pull(0, " + comer + ")", x.pull(0, comer), VOID);
        }
        due("pull(0, 0)", x.pull(0, 0), 5);
        due("pull(0, 99)", x.pull(0, 99), -4);
        says("Promise 8: how much a ROAD WANTS one who runs, too");
        due("pull(1, 85)", x.pull(1, 85), -1);
        says("Promise 9: a COMER is a code 0 .. 99, else BAD");
        for (int comer : new int[] {-1, 100, MIN, MAX}) {
            due("has(" + comer + ")", x.has(comer), BAD);
            due("has(" + comer + ") without ROADS", roads().has(comer), BAD);
        }
        due("has(0)", x.has(0), 1);
        due("has(99)", x.has(99), 0);
        says("Promise 9: NOT");
        due("has(0) without ROADS", roads().has(0), NOT);
    }

    private static void refusalsOfDays() {
        CrossroadsChoose x = roads(5, 4);
        otherKinds(x);
        IntBinaryOperator[] calls = {x::last, (shelf, n) -> x.day(shelf, n, 1, 0), x::unlike};
        String[] names = {"Promise 10: last", "Promise 11: day", "Promise 12: unlike"};
        for (int i = 0; i < 3; i++) {
            IntBinaryOperator call = calls[i];
            says(names[i] + ": no such SHELF: BAD");
            for (int shelf : new int[] {-1, 6, MIN, MAX}) {
                due("shelf " + shelf, call.applyAsInt(shelf, 1), BAD);
            }
            says(names[i] + ": n 0 .. 60, else BAD, ahead of -11, -12");
            for (int n : new int[] {-1, 61, MIN, MAX}) {
                for (int shelf = 0; shelf <= 5; shelf++) {
                    due("n " + n + " of shelf " + shelf, call.applyAsInt(shelf, n), BAD);
                }
            }
            says(names[i] + ": -11, for each n 0 .. 60");
            due("n 0", call.applyAsInt(0, 0), NOTHING_THERE);
            due("n 60", call.applyAsInt(0, 60), NOTHING_THERE);
            says(names[i] + ": -12 (no ROW of bytes)");
            for (int shelf = 1; shelf <= 5; shelf++) {
                due("shelf " + shelf, call.applyAsInt(shelf, 1), OTHER_KIND);
                due("shelf " + shelf + ", n 0", call.applyAsInt(shelf, 0), OTHER_KIND);
            }
        }
    }

    private static void refusalsOfDay() {
        says("Promise 11: no such ROAD: BAD, ahead of -11, -12");
        CrossroadsChoose x = roads(5, 4);
        otherKinds(x);
        for (int road : new int[] {-1, 2, 6, MIN, MAX}) {
            due("where nothing is, road " + road, x.day(0, 1, road, 0), BAD);
            due("of shorts, road " + road, x.day(2, 1, road, 0), BAD);
        }
        x.row(0, 0, 2);
        due("of bytes, road 2", x.day(0, 1, 2, 0), BAD);
        due("of bytes, road 1", x.day(0, 1, 1, 0), 1);
        says("Promise 11: what 0 .. 3, else BAD, ahead of -11, -12");
        x.keep(0, -1);
        for (int what : new int[] {-1, 4, MIN, MAX}) {
            due("where nothing is, what " + what, x.day(0, 1, 0, what), BAD);
            due("of a body, what " + what, x.day(1, 1, 0, what), BAD);
        }
        x.row(0, 0, 2);
        due("of bytes, what 4", x.day(0, 1, 0, 4), BAD);
        due("of bytes, what 3", x.day(0, 1, 0, 3), 0);
        says("Promise 11: without ROADS: BAD");
        x = roads();
        x.row(0, 0, 2);
        due("day", x.day(0, 1, 0, 0), BAD);
    }

    private static void comersOfADay() {
        says("A DAY: 60 COMERS at most");
        CrossroadsChoose x = by(BY_LOAD, 2);
        likeBytes(x, 0, 60, 1);
        due("all 60", x.day(0, 60, 1, 1), 60);
        due("59 of 60", x.day(0, 59, 1, 1), 59);
        due("1 of 60", x.day(0, 1, 1, 1), 1);
        due("none of 60", x.day(0, 0, 1, 1), 0);
        says("Its first n COMERS, all if there are fewer");
        bytes(x, 0, 0, 1, 1);
        int[] had = {0, 0, 1, 2, 2};
        for (int n = 0; n <= 4; n++) {
            due("1 had of " + n, x.day(0, n, 1, 1), had[n]);
        }
        due("1 had of 60", x.day(0, 60, 1, 1), 2);
        for (int none : new int[] {100, 127, -1, -100, -128}) {
            says("A DAY: it ends with what is none: " + none);
            bytes(x, 0, 0, 1, none, 1, 1);
            due("1 had", x.day(0, 60, 1, 1), 1);
            due("wait of 0", x.day(0, 60, 0, 0), 1);
            due("last", x.last(0, 60), 1);
            due("unlike", x.unlike(0, 60), 0);
            bytes(x, 0, none, 1);
            due("none at all", x.last(0, 60), NOT);
        }
        says("Bytes have their sign: 228 is none, 355 is 99");
        bytes(x, 0, 355, 1, 228, 1);
        due("1 had", x.day(0, 60, 1, 1), 1);
        due("0 had", x.day(0, 60, 0, 1), 1);
        says("A DAY: 0 and 99 are COMERS");
        x = by("p=9&c=9?r;-r", 2);
        x.mend(0, 5, 5);
        bytes(x, 0, 0, 99, 0, 99, 99);
        due("0 had", x.day(0, 60, 0, 1), 2);
        due("1 had", x.day(0, 60, 1, 1), 3);
    }

    private static void last() {
        says("Promise 10: which ROAD has the last one of n");
        CrossroadsChoose x = by(BY_LOAD, 3);
        bytes(x, 0, 2, 0, 1);
        due("last(0, 1)", x.last(0, 1), 2);
        due("last(0, 2)", x.last(0, 2), 0);
        due("last(0, 3)", x.last(0, 3), 1);
        due("last(0, 60)", x.last(0, 60), 1);
        says("LAST of the 60th");
        likeBytes(x, 1, 60, 0);
        x.put(1, 59, 2);
        due("last(1, 60)", x.last(1, 60), 2);
        due("last(1, 59)", x.last(1, 59), 0);
        says("LAST of no COMERS: NOT");
        due("last(0, 0)", x.last(0, 0), NOT);
        x.row(0, 0, 0);
        due("of an empty row", x.last(0, 60), NOT);
        says("Promise 10: NOT without ROADS");
        x = roads();
        x.row(0, 0, 3);
        due("last(0, 3)", x.last(0, 3), NOT);
        says("COMERS one behind the other: WAITS count on from one to the next");
        x = roads(2, 0);
        x.row(0, 0, 60);
        int[] who = {0, 0, 0, 1, 0, 0, 0, 1, 0};
        for (int n = 1; n <= who.length; n++) {
            due("last(0, " + n + ")", x.last(0, n), who[n - 1]);
        }
    }

    private static void dayNumbers() {
        says("Promise 11: WAIT of a ROAD then (99 at most)");
        CrossroadsChoose x = by("r=0?1;0", 2);
        x.row(0, 0, 60);
        for (int wait : new int[] {0, 38, 39, 40, 99}) {
            x.mend(1, 3, wait);
            due("from " + wait, x.day(0, 60, 1, 0), Math.min(99, wait + 60));
        }
        x.mend(0, 3, 5);
        due("who had one", x.day(0, 1, 0, 0), 0);
        says("Promise 11: WAIT behind no COMERS: as now");
        due("n 0", x.day(0, 0, 0, 0), 5);
        due("n 0", x.day(0, 0, 1, 0), 99);
        says("Promise 11: how many it had: none, and all");
        due("of 0", x.day(0, 60, 0, 1), 60);
        due("of 1", x.day(0, 60, 1, 1), 0);
        says("Promise 11: the first (NOT)");
        due("of 1", x.day(0, 60, 1, 2), NOT);
        due("of 0", x.day(0, 60, 0, 2), 0);
        due("of 0, n 0", x.day(0, 0, 0, 2), NOT);
        says("The first COMER it had: his place in the DAY");
        x = by(BY_LOAD, 2);
        likeBytes(x, 0, 60, 0);
        x.put(0, 59, 1);
        due("the latest place", x.day(0, 60, 1, 2), 59);
        due("one fewer", x.day(0, 59, 1, 2), NOT);
        x.put(0, 1, 71);
        due("not his code", x.day(0, 60, 1, 2), 1);
        says("Promise 11: runners, too");
        x.put(0, 0, 81);
        due("0 has him who runs", x.day(0, 1, 0, 1), 1);
        due("1 has none yet", x.day(0, 1, 1, 1), 0);
    }

    private static void longest() {
        says("THE LONGEST: the greatest WAIT now");
        CrossroadsChoose x = by(BY_LOAD, 2);
        x.mend(1, 3, 7);
        bytes(x, 0, 1, 0, 0, 0);
        due("n 0", x.day(0, 0, 1, 3), 7);
        due("behind one it had", x.day(0, 1, 1, 3), 7);
        due("behind three more", x.day(0, 4, 1, 3), 7);
        says("THE LONGEST: the greatest WAIT behind each COMER");
        bytes(x, 0, 0, 1, 0, 0, 0, 0, 0, 0, 0, 0, 0);
        due("behind the first", x.day(0, 1, 1, 3), 8);
        due("not the latest", x.day(0, 5, 1, 3), 8);
        due("as long", x.day(0, 10, 1, 3), 8);
        due("the latest", x.day(0, 11, 1, 3), 9);
        due("of the other", x.day(0, 11, 0, 3), 1);
        says("THE LONGEST: 99 at most");
        x.mend(1, 3, 98);
        likeBytes(x, 0, 60, 0);
        due("from 98", x.day(0, 60, 1, 3), 99);
        due("from 98, none", x.day(0, 0, 1, 3), 98);
        x.mend(1, 3, 99);
        due("from 99", x.day(0, 60, 1, 3), 99);
        says("THE LONGEST of a ROAD that has all: as now");
        due("of 0", x.day(0, 60, 0, 3), 0);
    }

    private static void unlike() {
        says("UNLIKE: the most any ROAD had less the fewest");
        CrossroadsChoose x = by(BY_LOAD, 3);
        bytes(x, 0, 0, 1, 1, 2, 2, 2, 2);
        int[] unlike = {0, 1, 1, 2, 1, 1, 2, 3};
        for (int n = 0; n <= 7; n++) {
            due("unlike(0, " + n + ")", x.unlike(0, n), unlike[n]);
        }
        due("unlike(0, 60)", x.unlike(0, 60), 3);
        says("UNLIKE: ROADS with none count");
        bytes(x, 0, 1, 1, 2);
        due("0 had none", x.unlike(0, 60), 2);
        bytes(x, 0, 1, 1, 0);
        due("2 had none", x.unlike(0, 60), 2);
        says("UNLIKE of 60 by one of them");
        x.row(0, 0, 60);
        due("unlike(0, 60)", x.unlike(0, 60), 60);
        says("UNLIKE of one ROAD: 0");
        x = roads(3);
        x.row(0, 0, 9);
        due("unlike(0, 9)", x.unlike(0, 9), 0);
        says("UNLIKE of no COMERS: 0");
        x = roads(3, 3);
        x.row(0, 0, 0);
        due("unlike(0, 9)", x.unlike(0, 9), 0);
        says("Promise 12: no ROADS: 0; BAD, -11, -12 ahead of it");
        x = roads();
        otherKinds(x);
        due("nothing there", x.unlike(0, 5), NOTHING_THERE);
        due("of shorts", x.unlike(2, 5), OTHER_KIND);
        due("n 61", x.unlike(0, 61), BAD);
        x.row(0, 0, 5);
        due("of bytes", x.unlike(0, 5), 0);
    }

    private static void how() {
        says("HOW TO COME: how many codes (of 100): all, none");
        CrossroadsChoose x = by("r=1?9;0", 2);
        x.mend(0, 5, 5);
        due("how(1, 0)", x.how(1, 0), 100);
        due("how(0, 0)", x.how(0, 0), 0);
        says("HOW TO COME: the least: 0");
        due("how(1, 1)", x.how(1, 1), 0);
        says("HOW TO COME: the least (NOT)");
        due("how(0, 1)", x.how(0, 1), NOT);
        says("HOW TO COME: code 99 alone");
        tell(x, "p=9&c=9?r;-r");
        due("how(1, 0)", x.how(1, 0), 1);
        due("how(1, 1)", x.how(1, 1), 99);
        due("how(0, 0)", x.how(0, 0), 99);
        says("HOW: runners, too");
        x.mend(0, 5, 1);
        due("how(1, 0)", x.how(1, 0), 20);
        due("how(1, 1)", x.how(1, 1), 80);
        due("how(0, 0)", x.how(0, 0), 80);
        says("HOW: as the ROADS stand now");
        tell(x, "w");
        due("how(0, 0)", x.how(0, 0), 80);
        x.mend(1, 3, 1);
        due("how(0, 0)", x.how(0, 0), 0);
        says("Promise 13: no such ROAD: BAD");
        for (int road : new int[] {-1, 2, 6, MIN, MAX}) {
            due("how(" + road + ", 0)", x.how(road, 0), BAD);
            due("how(" + road + ", 1)", x.how(road, 1), BAD);
        }
        due("without ROADS", roads().how(0, 0), BAD);
        says("Promise 13: what 0, 1, else BAD");
        for (int what : new int[] {-1, 2, MIN, MAX}) {
            due("how(0, " + what + ")", x.how(0, what), BAD);
        }
    }

    /** ROAD 1 has all behind its third WAIT, 0 all others. */
    private static void ahead() {
        CrossroadsChoose x = by("r=1?(w=3)*9;r=0?1;0", 3);
        says("AHEAD: the fewest COMERS (0 .. 3) sent ahead");
        for (int wait = 3; wait >= 0; wait--) {
            x.mend(1, 3, wait);
            due("ahead(100, -1), WAIT " + wait, x.ahead(100, -1), 3 - wait);
        }
        says("AHEAD: four would be needed: NOT");
        tell(x, "r=1?(w=4)*9;r=0?1;0");
        due("ahead(100, -1)", x.ahead(100, -1), NOT);
        due("ahead(100, 0)", x.ahead(100, 0), NOT);
        x.mend(1, 3, 1);
        due("three are", x.ahead(100, -1), 3);
        says("AHEAD: none at all would do: NOT");
        due("ahead(200, -1)", x.ahead(200, -1), NOT);
        due("ahead(200, 2)", x.ahead(200, 2), NOT);
        says("AHEAD: the k-th (NOT: there are not as many, too)");
        due("ahead(100, 0)", x.ahead(100, 0), 0);
        due("ahead(100, 2)", x.ahead(100, 2), 0);
        due("ahead(100, 3)", x.ahead(100, 3), NOT);
        due("ahead(100, MAX)", x.ahead(100, MAX), NOT);
        due("none is needed, k 0", x.ahead(0, 0), NOT);
        due("none is needed", x.ahead(0, -1), 0);
        x.mend(1, 3, 3);
        due("one is needed, k 1", x.ahead(100, 1), NOT);
        due("one is needed, k 0", x.ahead(100, 0), 0);
        says("Promise 14: k -1 and on, else BAD");
        for (int k : new int[] {-2, -3, MIN}) {
            due("ahead(100, " + k + ")", x.ahead(100, k), BAD);
        }
        says("Promise 14: rc is 100 times a ROAD that is there, and a COMER, else BAD");
        for (int rc : new int[] {-1, -100, 300, 399, 600, MIN, MAX}) {
            due("ahead(" + rc + ", -1)", x.ahead(rc, -1), BAD);
        }
        due("ahead(299, -1)", x.ahead(299, -1), NOT);
        due("without ROADS", roads().ahead(0, -1), BAD);
    }

    private static void aheadAnyCodes() {
        says("AHEAD: any codes: 99 alone will do");
        CrossroadsChoose x = by("r=1?(p=9&c=9)*9;r=0?(w=0)*5;3", 3);
        x.mend(0, 5, 5);
        due("ahead(205, -1)", x.ahead(205, -1), 1);
        due("ahead(205, 0)", x.ahead(205, 0), 99);
        says("AHEAD: runners, too, as those sent ahead");
        x = by("r=0?(w=0)*5;r=2?3;0", 3);
        due("0 has all that are asked", x.ahead(205, -1), NOT);
        x.mend(0, 5, 1);
        due("one who runs by 1", x.ahead(205, -1), 1);
        due("one who runs by 1", x.ahead(205, 0), 80);
        says("AHEAD: runners, too, as the COMER himself");
        due("ahead(185, -1)", x.ahead(185, -1), 0);
        due("ahead(285, -1)", x.ahead(285, -1), NOT);
        says("AHEAD: sent in thought alone");
        due("of(0, 3)", x.of(0, 3), 0);
        due("of(1, 3)", x.of(1, 3), 0);
    }

    private static void aheadFirstByCodes() {
        says("AHEAD: the k-th, one behind the other: their order counts");
        CrossroadsChoose x = by("r=0?(p=5)*5;r=1?9-(p=5&w=1)*9-(c<3)*9;6*(p<5)", 3);
        x.mend(1, 3, 5);
        // 0 has a comer 53 if 1 waits 1: one by 1 (LOAD 3 or more), then one by 2
        due("ahead(53, -1)", x.ahead(53, -1), 2);
        due("ahead(53, 0)", x.ahead(53, 0), 3);
        due("ahead(53, 1)", x.ahead(53, 1), 0);
        says("AHEAD: of like ones the first by codes, one behind the other: 3 and 90, not 7 and 0");
        x = by("r=1?(c=3&p=0&w=5|p=9&c=0&w=0)*9;r=2?(c=7&p=0&w=5|p+c=0&w=0)*9;r=3?7-(p=5&w=2)*7;(p=5)*5", 4);
        x.mend(0, 5, 5);
        x.mend(1, 3, 5);
        x.mend(2, 3, 5);
        due("ahead(55, -1)", x.ahead(55, -1), 2);
        due("ahead(55, 0)", x.ahead(55, 0), 3);
        due("ahead(55, 1)", x.ahead(55, 1), 90);
        says("AHEAD: of like ones the first by codes: the least of those that one ROAD has");
        x = by("r=1?(c>6)*9;r=0?(w=0)*5;3", 3);
        due("ahead(205, 0)", x.ahead(205, 0), 7);
    }

    private static void again() {
        says("AGAIN: the how manieth time: the first");
        CrossroadsChoose x = by("r=0?(w<5)*9;r=1?(w=5)*10;0", 3);
        due("again(0)", x.again(0), 1);
        says("AGAIN: one who comes again and again: WAITS count on");
        due("again(100)", x.again(100), 6);
        says("AGAIN: NOT");
        due("again(200)", x.again(200), NOT);
        says("AGAIN: one who runs");
        due("again(80)", x.again(80), 1);
        due("again(180)", x.again(180), NOT);
        x.mend(0, 5, 1);
        due("again(199)", x.again(199), 1);
        says("Promise 15: rc is 100 times a ROAD that is there, and a COMER, else BAD");
        for (int rc : new int[] {-1, -100, 300, 399, 600, MIN, MAX}) {
            due("again(" + rc + ")", x.again(rc), BAD);
        }
        due("again(299)", x.again(299), NOT);
        due("without ROADS", roads().again(0), BAD);
    }

    private static void againLate() {
        says("AGAIN: up to 200 times");
        // 0 has him; 2 at the 99th; 3 at the 100th; 2 once more at the 199th; 4 behind that
        CrossroadsChoose x = by("r=0?(w=0)*9;r=2?(w=99)*10;r=3?(w=0|w=99)*9;r=4?2;0", 5);
        x.mend(2, 3, 1);
        x.mend(3, 3, 1);
        due("again(200)", x.again(200), 99);
        due("again(300)", x.again(300), 100);
        due("again(400)", x.again(400), 200);
        says("AGAIN: the 201st time is told no more: NOT");
        x.mend(2, 3, 0);
        due("again(200)", x.again(200), 100);
        due("again(400)", x.again(400), NOT);
        says("AGAIN: in thought alone");
        due("of(2, 3)", x.of(2, 3), 0);
        due("of(3, 3)", x.of(3, 3), 1);
    }

    private static void green() {
        says("GREEN: which ROADS (bits) would have nobody now, whatever he is");
        CrossroadsChoose x = by("r=5?9;0", 6);
        x.mend(0, 5, 5);
        due("all but 5", x.green(), 31);
        tell(x, BY_LOAD);
        due("none", x.green(), 0);
        tell(x, "0");
        due("all but 0 and STRAIGHT 5", x.green(), 30);
        x.mend(0, 4, 0);
        due("all run", x.green(), 31);
        says("GREEN: one code alone counts: 99");
        x = by("p=9&c=9?r=1;r=0", 3);
        x.mend(0, 5, 5);
        due("2 alone", x.green(), 4);
        says("GREEN: one code alone counts: 0");
        tell(x, "p+c=0?r=1;r=2");
        due("0 alone", x.green(), 1);
        says("GREEN: runners, too");
        x = roads(9, 0, 0);
        due("1 and 2", x.green(), 6);
        x.mend(0, 5, 2);
        due("1", x.green(), 2);
        says("GREEN without ROADS: none");
        due("green()", roads().green(), 0);
        says("GREEN of one ROAD: none");
        due("green()", roads(0).green(), 0);
    }

    private static void second() {
        says("SECOND: the order of ROADS, the k-th, of like ones the least");
        CrossroadsChoose x = roads(1, 7, 3, 7, 9, 0);
        int[] order = {4, 1, 3, 2, 0, 5};
        for (int k = 0; k < 6; k++) {
            due("second(0, " + k + ")", x.second(0, k), order[k]);
        }
        says("Promise 17: k 0 on (NOT: there are not as many)");
        due("second(0, 6)", x.second(0, 6), NOT);
        due("second(0, MAX)", x.second(0, MAX), NOT);
        due("of one ROAD", roads(3).second(0, 1), NOT);
        due("without ROADS", roads().second(0, 0), NOT);
        says("Promise 17: k below 0: BAD");
        for (int k : new int[] {-1, MIN}) {
            due("second(0, " + k + ")", x.second(0, k), BAD);
            due("second(0, " + k + ") without ROADS", roads().second(0, k), BAD);
        }
        says("Promise 17: no COMER: BAD");
        for (int comer : new int[] {-1, 100, MIN, MAX}) {
            due("second(" + comer + ", 0)", x.second(comer, 0), BAD);
            due("second(" + comer + ", 0) without ROADS", roads().second(comer, 0), BAD);
        }
        due("second(99, 0)", x.second(99, 0), 0);
    }

    private static void secondAnew() {
        says("SECOND: one who runs does not sit: his ROAD alone");
        CrossroadsChoose x = roads(1, 7, 3);
        x.mend(0, 5, 2);
        due("second(80, 0)", x.second(80, 0), 2);
        due("second(80, 1)", x.second(80, 1), NOT);
        due("79 sits", x.second(79, 2), 0);
        says("who runs without a ROAD STRAIGHT sits as others do");
        x.mend(0, 5, 3);
        due("second(80, 0)", x.second(80, 0), 1);
        due("second(80, 1)", x.second(80, 1), 2);
        due("second(80, 2)", x.second(80, 2), 0);
        says("SECOND: as they WANT him now: by WAITS as they are, that sitting changes not");
        x = roads(5, 4, 0);
        x.mend(2, 3, 3);
        due("second(0, 0)", x.second(0, 0), 0);
        due("second(0, 1)", x.second(0, 1), 1);
        due("second(0, 2)", x.second(0, 2), 2);
        due("of(1, 3)", x.of(1, 3), 0);
        says("SECOND: also of those who WANT him below 0");
        x = by("-999+r=-997?-998;-999", 3);
        due("second(0, 0)", x.second(0, 0), 2);
        due("second(0, 1)", x.second(0, 1), 0);
        due("second(0, 2)", x.second(0, 2), 1);
    }

    private static void sit() {
        says("SIT: the best of WORTH less what sitting cost; after how many sittings");
        CrossroadsChoose x = roads(9, 6, 3);
        x.mend(1, 2, 5);
        x.mend(2, 2, 6);
        due("sit(0, 0)", x.sit(0, 0), 3);
        due("sit(0, 1)", x.sit(0, 1), 1);
        says("SIT: of like ones the fewest sittings");
        x.mend(2, 2, 7);
        due("sit(0, 0)", x.sit(0, 0), 3);
        due("sit(0, 1)", x.sit(0, 1), 1);
        x.mend(0, 2, 3);
        due("sit(0, 1)", x.sit(0, 1), 0);
        x.mend(2, 2, 8);
        due("one more", x.sit(0, 0), 4);
        due("one more", x.sit(0, 1), 2);
        says("SIT 0: sitting costs nothing");
        x.mend(0, 6, 0);
        due("sit(0, 0)", x.sit(0, 0), 8);
        says("SIT 9: each sitting costs");
        x.mend(0, 6, 9);
        x.mend(2, 2, 99);
        due("sit(0, 0)", x.sit(0, 0), 81);
        says("SIT: one who runs does not sit");
        due("sit(80, 0)", x.sit(80, 0), 3);
        due("sit(80, 1)", x.sit(80, 1), 0);
        x.mend(0, 5, 4);
        due("without a ROAD STRAIGHT he does", x.sit(80, 0), 81);
        says("SIT: the best is below 0");
        x = roads(1);
        x.mend(0, 2, -99);
        due("sit(0, 0)", x.sit(0, 0), -99);
        due("sit(0, 1)", x.sit(0, 1), 0);
        says("Promise 18: no COMER: VOID");
        for (int comer : new int[] {-1, 100, MIN, MAX}) {
            due("sit(" + comer + ", 0)", x.sit(comer, 0), VOID);
            due("sit(" + comer + ", 1)", x.sit(comer, 1), VOID);
        }
        says("Promise 18: what 0, 1, else VOID");
        for (int what : new int[] {-1, 2, MIN, MAX}) {
            due("sit(0, " + what + ")", x.sit(0, what), VOID);
        }
        says("SIT: without ROADS VOID");
        due("sit(0, 0)", roads().sit(0, 0), VOID);
        due("sit(0, 1)", roads().sit(0, 1), VOID);
    }
}

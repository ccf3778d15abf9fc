/** The edges of promises 19 to 28 (votes, books, turns): each sentence that names one, by a test of its own. */
public final class VoteEdgeTests extends Edges {
    public static void main(String[] args) {
        power();
        powerRefuses();
        winning();
        winningEdges();
        more();
        whatever();
        least();
        judge();
        judgeEnds();
        bookRefusals();
        liking();
        waited();
        fair();
        fairRefuses();
        drawn();
        drawnNumbers();
        drawnRefuses();
        Due.end("VoteEdgeTests");
    }

    /** A crossing with roads of these DUSTS, and a QUOTA. */
    private static CrossroadsChoose voters(int quota, int... dusts) {
        CrossroadsChoose x = roads(new int[dusts.length]);
        for (int road = 0; road < dusts.length; road++) {
            x.mend(road, 1, dusts[road]);
        }
        x.mend(0, 7, quota);
        return x;
    }

    private static void fraction(CrossroadsChoose x, int road, int above, int below) {
        due("power(" + road + ", 0)", x.power(road, 0), above);
        due("power(" + road + ", 1)", x.power(road, 1), below);
    }

    private static void power() {
        says("POWER: a fraction in lowest terms");
        CrossroadsChoose x = voters(4, 3, 2, 1);
        fraction(x, 0, 2, 3);
        fraction(x, 1, 1, 6);
        fraction(x, 2, 1, 6);
        x = voters(4, 1, 4, 2, 1);
        fraction(x, 1, 3, 4);
        fraction(x, 0, 1, 12);
        says("POWER: always: 1 by 1");
        x = voters(9, 9, 0, 3);
        fraction(x, 0, 1, 1);
        says("POWER: never: 0 by 1");
        fraction(x, 1, 0, 1);
        fraction(x, 2, 0, 1);
        says("POWER: none WINS: 0 by 1");
        x = voters(7, 3, 3);
        fraction(x, 0, 0, 1);
        fraction(x, 1, 0, 1);
        says("POWER: those with DUST of QUOTA exactly WIN");
        x = voters(6, 3, 3);
        fraction(x, 0, 1, 2);
        x = voters(3, 3, 3, 2);
        fraction(x, 0, 1, 2);
        fraction(x, 2, 0, 1);
        says("POWER of six: all orders");
        x = voters(54, 9, 9, 9, 9, 9, 9);
        fraction(x, 0, 1, 6);
        fraction(x, 5, 1, 6);
        x = voters(1, 9, 9, 9, 9, 9, 0);
        fraction(x, 0, 1, 5);
        fraction(x, 5, 0, 1);
        x = voters(8, 5, 3, 2, 2, 1, 1);
        // counted apart, by all 720 orders
        fraction(x, 0, 9, 20);
        fraction(x, 1, 11, 60);
        says("POWER of one ROAD");
        x = voters(1, 1);
        fraction(x, 0, 1, 1);
    }

    private static void powerRefuses() {
        CrossroadsChoose x = voters(4, 3, 2);
        says("Promise 19: no such ROAD: Long.MIN_VALUE");
        for (int road : new int[] {-1, 2, 6, MIN, MAX}) {
            due("power(" + road + ", 0)", x.power(road, 0), NONE);
            due("power(" + road + ", 1)", x.power(road, 1), NONE);
        }
        due("without ROADS", roads().power(0, 0), NONE);
        due("without ROADS", roads().power(0, 1), NONE);
        says("Promise 19: part 0, 1, else Long.MIN_VALUE");
        for (int part : new int[] {-1, 2, MIN, MAX}) {
            due("power(0, " + part + ")", x.power(0, part), NONE);
        }
        due("power(1, 1)", x.power(1, 1), 2);
    }

    private static void all(CrossroadsChoose x, int... want) {
        for (int what = 0; what < want.length; what++) {
            due("winning(" + what + ")", x.winning(what), want[what]);
        }
    }

    private static void winning() {
        says("a set WINS, if its DUST together is QUOTA or more");
        due("QUOTA 6 of 3 and 3", voters(6, 3, 3).winning(0), 1);
        due("QUOTA 7 of 3 and 3", voters(7, 3, 3).winning(0), 0);
        due("QUOTA 5 of 3 and 3", voters(5, 3, 3).winning(0), 1);
        due("QUOTA 3 of 3 and 3", voters(3, 3, 3).winning(0), 3);
        says("WINNING: how many WIN; how many not without any one of theirs; the least such; NEEDED; IDLE");
        all(voters(4, 3, 2, 1), 3, 2, 3, 1, 0);
        all(voters(5, 3, 2, 1), 2, 1, 3, 3, 4);
        all(voters(6, 3, 2, 1), 1, 1, 7, 7, 0);
        says("WINNING: the least such by bits");
        all(voters(4, 1, 2, 3, 4), 11, 3, 5, 0, 0);
        all(voters(3, 0, 0, 3, 1), 8, 1, 4, 4, 11);
        says("WINNING: a ROAD of DUST 0 can be spared: its sets are none without which none WINS");
        all(voters(3, 3, 0), 2, 1, 1, 1, 2);
        says("WINNING of six");
        all(voters(54, 9, 9, 9, 9, 9, 9), 1, 1, 63, 63, 0);
        all(voters(1, 9, 9, 9, 9, 9, 9), 63, 6, 1, 0, 0);
        all(voters(1, 0, 0, 0, 0, 0, 1), 32, 1, 32, 32, 31);
        all(voters(27, 9, 9, 9, 9, 9, 9), 42, 20, 7, 0, 0);
    }

    private static void winningEdges() {
        says("WINNING: none WINS: the least NOT; NEEDED: 0, if none WINS; IDLE: all ROADS then");
        all(voters(7, 3, 3), 0, 0, NOT, 0, 3);
        all(voters(1, 0, 0, 0, 0, 0, 0), 0, 0, NOT, 0, 63);
        says("WINNING without ROADS");
        all(roads(), 0, 0, NOT, 0, 0);
        says("WINNING: QUOTA 54, the most");
        all(voters(54, 9, 9, 9, 9, 9, 8), 0, 0, NOT, 0, 63);
        says("Promise 20: what 0 .. 4, else BAD");
        for (int what : new int[] {-1, 5, MIN, MAX}) {
            due("winning(" + what + ")", voters(4, 3, 2).winning(what), BAD);
            due("winning(" + what + ") without ROADS", roads().winning(what), BAD);
        }
    }

    private static void more() {
        says("MORE DUST: the least DUST (0 .. 9): 0");
        CrossroadsChoose x = by("r=1?d;3", 2);
        x.mend(0, 5, 5);
        due("more(0)", x.more(0), 0);
        says("MORE DUST: the least that does, of like ones the least ROAD has him");
        due("more(100)", x.more(100), 4);
        tell(x, "r=0?d;3");
        due("more(0)", x.more(0), 3);
        says("MORE DUST: 9");
        tell(x, "r=1?d;8");
        due("more(100)", x.more(100), 9);
        says("MORE DUST: 10 would do: NOT");
        tell(x, "r=1?d;9");
        due("more(100)", x.more(100), NOT);
        says("MORE DUST: whatever its DUST is now");
        tell(x, "r=1?d;3");
        x.mend(1, 1, 9);
        due("from 9", x.more(100), 4);
        x.mend(1, 1, 0);
        due("from 0", x.more(100), 4);
        due("its DUST is as it was", x.of(1, 1), 0);
        says("MORE DUST: DUST of that ROAD alone is other");
        tell(x, "d");
        x.mend(0, 1, 6);
        due("more(100)", x.more(100), 7);
        says("MORE DUST: the least, though more DUST would lose him again");
        tell(x, "r=1?(d=2|d=3)*9;3");
        due("more(100)", x.more(100), 2);
        says("MORE DUST: one who runs");
        x.mend(0, 5, 1);
        due("more(180)", x.more(180), 0);
        due("more(80)", x.more(80), NOT);
        says("Promise 21: rc is 100 times a ROAD that is there, and a COMER, else BAD");
        for (int rc : new int[] {-1, -100, 200, 299, 600, MIN, MAX}) {
            due("more(" + rc + ")", x.more(rc), BAD);
        }
        due("more(199)", x.more(199), 0);
        due("without ROADS", roads().more(0), BAD);
    }

    private static void whatever() {
        says("WHATEVER: all of a PACE, whatever LOAD (0 .. 9): the least and the greatest LOAD count");
        CrossroadsChoose x = by("r=1?d-(c=9)*4;3", 2);
        x.mend(0, 5, 5);
        due("LOAD 9", x.whatever(1, 0), 8);
        tell(x, "r=1?d-(c=0)*4;3");
        due("LOAD 0", x.whatever(1, 9), 8);
        tell(x, "r=1?d-c;0");
        due("all but LOAD 9 are not enough", x.whatever(1, 0), NOT);
        says("WHATEVER: that PACE alone");
        tell(x, "r=1?d-(p=4)*4;3");
        due("PACE 3", x.whatever(1, 3), 4);
        due("PACE 4", x.whatever(1, 4), 8);
        due("PACE 5", x.whatever(1, 5), 4);
        says("WHATEVER: the least DUST (0 .. 9): 0 and 9, NOT");
        due("0", x.whatever(0, 0), 0);
        tell(x, "r=1?d;8");
        due("9", x.whatever(1, 0), 9);
        tell(x, "r=1?d;9");
        due("NOT", x.whatever(1, 0), NOT);
        says("WHATEVER: whatever its DUST is now; of that ROAD alone");
        tell(x, "d");
        x.mend(1, 1, 9);
        x.mend(0, 1, 2);
        due("from 9", x.whatever(1, 0), 3);
        due("its DUST is as it was", x.of(1, 1), 9);
        says("WHATEVER: PACE of those who run");
        x.mend(0, 5, 1);
        due("whatever(1, 8)", x.whatever(1, 8), 0);
        due("whatever(0, 9)", x.whatever(0, 9), NOT);
        says("Promise 22: PACE 0 .. 9, else BAD");
        for (int pace : new int[] {-1, 10, MIN, MAX}) {
            due("whatever(0, " + pace + ")", x.whatever(0, pace), BAD);
        }
        says("Promise 22: no such ROAD: BAD");
        for (int road : new int[] {-1, 2, 6, MIN, MAX}) {
            due("whatever(" + road + ", 0)", x.whatever(road, 0), BAD);
        }
        due("without ROADS", roads().whatever(0, 0), BAD);
    }

    private static void least() {
        says("LEAST LIKED: of like ones the least");
        due("all alike", roads(5, 5, 5).least(), 0);
        due("two alike", roads(6, 5, 5).least(), 1);
        says("LEAST LIKED by the sum of the three: LIKES, WAIT and DUST");
        CrossroadsChoose x = roads(5, 4, 3);
        due("by LIKES", x.least(), 2);
        x.mend(2, 3, 2);
        due("by WAIT", x.least(), 1);
        x.mend(0, 1, 4);
        x.mend(1, 1, 4);
        due("by DUST", x.least(), 2);
        x.mend(2, 3, 99);
        due("by a far WAIT", x.least(), 1);
        x.mend(1, 3, 98);
        due("by all", x.least(), 0);
        x.mend(0, 3, 99);
        due("by all, of far WAITS", x.least(), 2);
        says("LEAST LIKED: not by the law, nor by WORTH");
        tell(x, "r");
        x.mend(0, 2, -99);
        due("least()", x.least(), 2);
        says("LEAST LIKED: the latest ROAD; NOT without ROADS");
        due("of six", roads(9, 9, 9, 9, 9, 8).least(), 5);
        due("without ROADS", roads().least(), NOT);
    }

    private static void judge() {
        says("JUDGED: the first two that is not so");
        CrossroadsChoose x = by("c=r?9;0", 3);
        bytes(x, 0, 0, 0, 1, 1, 2, 1, 2, 0);
        due("the third", x.judge(0), 2);
        says("JUDGED: all so: NOT");
        bytes(x, 0, 0, 0, 1, 1, 2, 2, 5, 0);
        due("judge(0)", x.judge(0), NOT);
        says("JUDGED: each two as the crossing stands behind those ahead");
        x = roads(2, 0);
        bytes(x, 0, 0, 0, 0, 0, 0, 0, 0, 1, 0, 0);
        due("the fourth by 1", x.judge(0), NOT);
        bytes(x, 0, 0, 0, 0, 0, 0, 0, 0, 0);
        due("the fourth by 0", x.judge(0), 3);
        says("JUDGED from now");
        x.mend(1, 3, 3);
        due("1 has the first", x.judge(0), 0);
        says("JUDGED: runners, too");
        bytes(x, 0, 80, 0, 0, 1);
        due("one who runs by 0", x.judge(0), NOT);
        bytes(x, 0, 80, 1);
        due("one who runs by 1", x.judge(0), 0);
        says("JUDGED: thirty twos");
        x = by("r=0?1;0", 2);
        x.row(0, 0, 60);
        due("all so", x.judge(0), NOT);
        x.put(0, 59, 1);
        due("the latest is not", x.judge(0), 29);
        x.put(0, 1, 1);
        due("nor the first", x.judge(0), 0);
    }

    private static void judgeEnds() {
        CrossroadsChoose x = by("c=r?9;0", 2);
        for (int none : new int[] {100, 127, -1, -2, -128}) {
            says("JUDGED: none such, too: the COMER " + none);
            bytes(x, 0, 0, 0, none, 0, 0, 0);
            due("judge(0)", x.judge(0), 1);
        }
        for (int none : new int[] {2, 5, 6, 127, -1, -2, -128}) {
            says("JUDGED: none such, too: the ROAD " + none);
            bytes(x, 0, 0, 0, 0, none, 0, 0);
            due("judge(0)", x.judge(0), 1);
        }
        says("JUDGED: none such, without ROADS: also where -2 stands");
        CrossroadsChoose none = roads();
        bytes(none, 0, 0, -2);
        due("judge(0)", none.judge(0), 0);
        bytes(none, 0, 0, 0);
        due("judge(0)", none.judge(0), 0);
        says("JUDGED: lacking, too: the number of the two, also of an odd last byte");
        bytes(x, 0, 0);
        due("one byte", x.judge(0), 0);
        bytes(x, 0, 0, 0, 1);
        due("three bytes", x.judge(0), 1);
        bytes(x, 0, 0, 1, 1);
        due("three bytes, the first two not so", x.judge(0), 0);
        x.row(0, 0, 59);
        due("59 bytes", x.judge(0), 29);
        says("JUDGED: of an empty ROW NOT");
        x.row(0, 0, 0);
        due("judge(0)", x.judge(0), NOT);
        none.row(0, 0, 0);
        due("without ROADS, too", none.judge(0), NOT);
        says("JUDGED in thought alone");
        bytes(x, 0, 0, 0, 0, 0);
        due("judge(0)", x.judge(0), NOT);
        due("of(1, 3)", x.of(1, 3), 0);
    }

    private static void bookRefusals() {
        CrossroadsChoose x = roads(5, 4);
        otherKinds(x);
        says("Promises 24 to 26: no such SHELF: BAD");
        for (int shelf : new int[] {-1, 6, MIN, MAX}) {
            due("judge(" + shelf + ")", x.judge(shelf), BAD);
            due("liking(" + shelf + ", 0, 0)", x.liking(shelf, 0, 0), BAD);
            due("waited(" + shelf + ", 0, 0)", x.waited(shelf, 0, 0), BAD);
        }
        says("Promises 24 to 26: -11");
        due("judge(0)", x.judge(0), NOTHING_THERE);
        due("liking(0, 1, 1)", x.liking(0, 1, 1), NOTHING_THERE);
        due("waited(0, 1, 1)", x.waited(0, 1, 1), NOTHING_THERE);
        says("Promises 24 to 26: -12");
        for (int shelf = 1; shelf <= 5; shelf++) {
            due("judge(" + shelf + ")", x.judge(shelf), OTHER_KIND);
            due("liking(" + shelf + ", 1, 1)", x.liking(shelf, 1, 1), OTHER_KIND);
            due("waited(" + shelf + ", 1, 1)", x.waited(shelf, 1, 1), OTHER_KIND);
        }
        x.row(5, 0, 2);
        for (int shelf : new int[] {0, 2, 5}) {
            says("Promises 25, 26: no such ROAD: BAD, ahead of -11, -12: shelf " + shelf);
            for (int road : new int[] {-1, 2, 6, MIN, MAX}) {
                due("liking(" + shelf + ", " + road + ", 0)", x.liking(shelf, road, 0), BAD);
                due("waited(" + shelf + ", " + road + ", 0)", x.waited(shelf, road, 0), BAD);
            }
            says("Promises 25, 26: what 0, 1, else BAD, ahead of -11, -12: shelf " + shelf);
            for (int what : new int[] {-1, 2, MIN, MAX}) {
                due("liking(" + shelf + ", 0, " + what + ")", x.liking(shelf, 0, what), BAD);
                due("waited(" + shelf + ", 0, " + what + ")", x.waited(shelf, 0, what), BAD);
            }
        }
    }

    private static void liked(CrossroadsChoose x, int road, int many, int least) {
        due("liking(0, " + road + ", 0)", x.liking(0, road, 0), many);
        due("liking(0, " + road + ", 1)", x.liking(0, road, 1), least);
    }

    private static void liking() {
        CrossroadsChoose x = by("r=1?l;3", 2);
        bytes(x, 0, 0, 1);
        says("LIKING: how many LIKES (0 .. 9) of a ROAD make all so; the least");
        liked(x, 1, 6, 4);
        says("LIKING: all ten, the least 0");
        bytes(x, 0, 0, 0);
        liked(x, 0, 10, 0);
        liked(x, 1, 4, 0);
        says("LIKING: 9 alone");
        tell(x, "r=1?l;8");
        bytes(x, 0, 0, 1);
        liked(x, 1, 1, 9);
        says("LIKING: 10 would do: none, NOT");
        tell(x, "r=1?l;9");
        liked(x, 1, 0, NOT);
        says("LIKING: 0 alone");
        tell(x, "r=1?!l;0");
        liked(x, 1, 1, 0);
        says("LIKING: those that make all so need not lie together");
        tell(x, "r=1?l%3;1");
        liked(x, 1, 3, 2);
        says("LIKING: only that number of that ROAD is another");
        tell(x, "l");
        x.mend(0, 0, 7);
        x.mend(1, 0, 3);
        liked(x, 1, 2, 8);
        liked(x, 0, 3, 0);
        due("of(0, 0)", x.of(0, 0), 7);
        due("of(1, 0)", x.of(1, 0), 3);
        says("LIKING: all of the book");
        x = roads(2, 0);
        bytes(x, 0, 0, 0, 0, 0, 0, 1);
        // 0 has two, then 1 has one: l >= 1 ahead of the second, l < 2 ahead of the third
        liked(x, 0, 1, 1);
        says("LIKING of an empty ROW: all ten");
        x.row(0, 0, 0);
        liked(x, 0, 10, 0);
        says("LIKING of a book with half a two: none");
        x.row(0, 0, 1);
        liked(x, 0, 0, NOT);
    }

    private static void hadWaited(CrossroadsChoose x, int road, int many, int greatest) {
        due("waited(0, " + road + ", 0)", x.waited(0, road, 0), many);
        due("waited(0, " + road + ", 1)", x.waited(0, road, 1), greatest);
    }

    private static void waited() {
        CrossroadsChoose x = by("r=1?w;3", 2);
        bytes(x, 0, 0, 1);
        says("WAITED: how many WAITS (0 .. 20) of a ROAD make all so; the greatest");
        hadWaited(x, 1, 17, 20);
        says("WAITED: all 21, the greatest 20");
        tell(x, "r=1");
        hadWaited(x, 1, 21, 20);
        says("WAITED: 0 alone");
        tell(x, "r=1?!w;0");
        hadWaited(x, 1, 1, 0);
        says("WAITED: 20 alone");
        tell(x, "r=1?w;19");
        hadWaited(x, 1, 1, 20);
        says("WAITED: 21 would do: none, NOT");
        tell(x, "r=1?w;20");
        hadWaited(x, 1, 0, NOT);
        says("WAITED: also where the ROAD waits more than 20 now");
        x.mend(1, 3, 50);
        due("judge(0)", x.judge(0), NOT);
        hadWaited(x, 1, 0, NOT);
        due("of(1, 3)", x.of(1, 3), 50);
        says("WAITED, now: the number ahead of the first two");
        tell(x, "r=1?(w=5)*9;1");
        bytes(x, 0, 0, 0, 0, 1);
        hadWaited(x, 1, 1, 4);
        says("WAITED: those that make all so need not lie together");
        tell(x, "r=1?w%7=3;0");
        bytes(x, 0, 0, 1);
        hadWaited(x, 1, 3, 17);
        says("WAITED: only that number of that ROAD is another");
        tell(x, "w");
        x.mend(0, 3, 12);
        hadWaited(x, 1, 8, 20);
        bytes(x, 0, 0, 0);
        hadWaited(x, 1, 13, 12);
        says("WAITED of an empty ROW: all 21");
        x.row(0, 0, 0);
        hadWaited(x, 1, 21, 20);
        says("WAITED of a book with half a two: none");
        x.row(0, 0, 3);
        hadWaited(x, 1, 0, NOT);
    }

    /** A crossing by a law, whose roads have these WORTHS. */
    private static CrossroadsChoose worths(String law, int... worths) {
        CrossroadsChoose x = by(law, worths.length);
        for (int road = 0; road < worths.length; road++) {
            x.mend(road, 2, worths[road]);
        }
        return x;
    }

    private static void fair() {
        says("FAIR: sent on by turns instead (0, 1 and so on, round)");
        CrossroadsChoose x = worths("c=r?9;0", 1, 10, 50);
        x.row(0, 0, 0);
        int[] byTurns = {0, 1, 11, 61, 62, 72, 122, 123};
        for (int n = 0; n < byTurns.length; n++) {
            likeBytes(x, 0, n, 2);
            due("of " + n, x.fair(0, 0), byTurns[n]);
            due("of " + n + " by the crossing", x.fair(0, 1), 50 * n);
        }
        says("FAIR: 60 COMERS");
        likeBytes(x, 0, 60, 1);
        due("by turns", x.fair(0, 0), 20 * 61);
        due("by the crossing", x.fair(0, 1), 600);
        x.put(0, 59, 2);
        due("by the crossing, the latest by 2", x.fair(0, 1), 640);
        says("FAIR: of the COMERS of a DAY alone");
        for (int none : new int[] {100, -1, -128}) {
            bytes(x, 0, 1, 1, none, 2);
            due("by turns", x.fair(0, 0), 11);
            due("by the crossing", x.fair(0, 1), 20);
        }
        says("FAIR of an empty ROW: 0");
        x.row(0, 0, 0);
        due("by turns", x.fair(0, 0), 0);
        due("by the crossing", x.fair(0, 1), 0);
        says("FAIR: runners, too");
        x.mend(0, 5, 1);
        likeBytes(x, 0, 3, 90);
        due("by turns", x.fair(0, 0), 61);
        due("by the crossing", x.fair(0, 1), 30);
        says("FAIR of WORTHS below 0, of one ROAD");
        x = worths("0", -99);
        likeBytes(x, 0, 60, 0);
        due("by turns", x.fair(0, 0), -5940);
        due("by the crossing", x.fair(0, 1), -5940);
        says("FAIR in thought alone");
        due("led(3)", x.led(3), 0);
    }

    private static void fairRefuses() {
        CrossroadsChoose x = roads(1, 2);
        otherKinds(x);
        says("Promise 27: VOID: no ROW of bytes");
        for (int shelf = 0; shelf <= 5; shelf++) {
            due("fair(" + shelf + ", 0)", x.fair(shelf, 0), VOID);
            due("fair(" + shelf + ", 1)", x.fair(shelf, 1), VOID);
        }
        says("Promise 27: VOID: no such SHELF");
        for (int shelf : new int[] {-1, 6, MIN, MAX}) {
            due("fair(" + shelf + ", 0)", x.fair(shelf, 0), VOID);
        }
        says("Promise 27: what 0, 1, else VOID");
        x.row(0, 0, 3);
        for (int what : new int[] {-1, 2, MIN, MAX}) {
            due("fair(0, " + what + ")", x.fair(0, what), VOID);
        }
        due("fair(0, 1)", x.fair(0, 1), 0);
        says("Promise 27: VOID: no ROADS");
        x = roads();
        x.row(0, 0, 3);
        due("by turns", x.fair(0, 0), VOID);
        due("by the crossing", x.fair(0, 1), VOID);
        x.row(0, 0, 0);
        due("of an empty ROW", x.fair(0, 0), VOID);
    }

    private static void drawn() {
        // the first codes by some seeds, worked out apart
        int[][] codes = {{0, 48, 38, 75, 88}, {1, 54, 32, 56, 3}, {2, 61, 27, 53, 18}, {MAX, 49, 36, 87, 65},
            {MIN, 56, 30, 67, 80}, {-1, 57, 28, 79, 73}};
        for (int[] row : codes) {
            says("DRAWN: z by SEED " + row[0] + ", ahead of each; the code is (z >>> 8) % 100");
            for (int i = 1; i < row.length; i++) {
                CrossroadsChoose x = by("10*p+c=" + row[i] + "?r;-r", 2);
                x.mend(0, 5, 5);
                for (int m = 1; m < row.length; m++) {
                    int want = 0;
                    for (int k = 1; k <= m; k++) {
                        want += row[k] == row[i] ? 1 : 0;
                    }
                    due("code " + row[i] + " of " + m, x.drawn(row[0], 100 + m, 1), want);
                }
            }
        }
        says("DRAWN: z goes on from day to day");
        CrossroadsChoose x = by("10*p+c=75?r;-r", 2);
        due("two of one day", x.drawn(0, 102, 1), 0);
        due("two days of one", x.drawn(0, 201, 1), 0);
        due("three days of one", x.drawn(0, 301, 1), 1);
        says("DRAWN: WAITS are as now ahead of each day");
        x = by("r=1?w=2;0", 2);
        x.mend(0, 4, 9);
        x.mend(0, 5, 5);
        due("days of two", x.drawn(0, 3002, 1), 0);
        due("days of three", x.drawn(0, 3003, 1), 30);
        x.mend(1, 3, 1);
        due("days of two, who waited one", x.drawn(0, 3002, 1), 30);
        due("in thought alone", x.of(1, 3), 1);
        says("DRAWN: WAITS are as now ahead of each day: of the first ROAD, too");
        tell(x, "r=0?w=2;1");
        due("days of two", x.drawn(0, 3002, 0), 0);
        tell(x, "r=0?2*(w=2);1");
        due("days of three", x.drawn(0, 3003, 0), 30);
        due("days of four", x.drawn(0, 3004, 0), 30);
    }

    private static void drawnNumbers() {
        says("DRAWN: n days (1 .. 30) of m COMERS (1 .. 60): how many a told ROAD had");
        CrossroadsChoose x = worths("r=1", 5, -99, 7);
        x.mend(0, 5, 5);
        due("1 of 1", x.drawn(9, 101, 1), 1);
        due("30 of 60", x.drawn(9, 3060, 1), 1800);
        due("30 of 1", x.drawn(9, 3001, 1), 30);
        due("1 of 60", x.drawn(9, 160, 1), 60);
        due("of another", x.drawn(9, 3060, 2), 0);
        due("of ROAD 0", x.drawn(9, 3060, 0), 0);
        tell(x, "r=0");
        due("of ROAD 0", x.drawn(9, 3060, 0), 1800);
        tell(x, "r=1");
        says("DRAWN: WORTH of all together (road -1)");
        due("1 of 1", x.drawn(9, 101, -1), -99);
        due("30 of 60", x.drawn(9, 3060, -1), -178200);
        says("DRAWN: runners, too");
        x.mend(0, 4, 0);
        x.mend(0, 5, 2);
        due("30 of 60", x.drawn(9, 3060, 2), 1800);
        says("DRAWN without ROADS: WORTH 0");
        due("drawn(9, 3060, -1)", roads().drawn(9, 3060, -1), 0);
        due("drawn(9, 101, 0)", roads().drawn(9, 101, 0), VOID);
    }

    private static void drawnRefuses() {
        CrossroadsChoose x = roads(3, 4);
        says("DRAWN: n (1 .. 30), else VOID");
        for (int nm : new int[] {0, 1, 60, 3101, 3160, 10001, -101, -201, MIN, MAX}) {
            due("drawn(1, " + nm + ", 0)", x.drawn(1, nm, 0), VOID);
            due("drawn(1, " + nm + ", -1)", x.drawn(1, nm, -1), VOID);
        }
        says("DRAWN: m (1 .. 60), else VOID");
        for (int nm : new int[] {100, 161, 199, 3000, 3061, 3099}) {
            due("drawn(1, " + nm + ", 0)", x.drawn(1, nm, 0), VOID);
            due("drawn(1, " + nm + ", -1)", x.drawn(1, nm, -1), VOID);
        }
        says("Promise 28: road 0 on, or -1, else VOID");
        for (int road : new int[] {-2, 2, 6, MIN, MAX}) {
            due("drawn(1, 101, " + road + ")", x.drawn(1, 101, road), VOID);
        }
        due("drawn(1, 101, 1)", x.drawn(1, 101, 1) + x.drawn(1, 101, 0), 1);
    }
}

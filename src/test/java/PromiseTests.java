/** Each promise by itself: ordinary inputs, edges that the document names, wrong inputs. */
public final class PromiseTests {
    private static final int BAD = -1, NOT = -2, FULL = -3, STATE = -5, VOID = -2000000000;
    private static final int MIN = Integer.MIN_VALUE, MAX = Integer.MAX_VALUE;

    public static void main(String[] args) {
        promises1To7();
        lawFaults();
        lawWorths();
        promises8And9();
        promises10To12();
        promises13To16();
        promises17And18();
        promises19And20();
        promises21To23();
        promises24To26();
        promises27And28();
        promises29To31();
        promises32To35();
        promises36To38();
        promises39To42();
        promises43To45();
        Due.end("PromiseTests");
    }

    private static void due(String call, long got, long want) {
        Due.due(call, got, want);
    }

    private static CrossroadsChoose crossing(int... likes) {
        CrossroadsChoose x = new CrossroadsChoose();
        for (int i = 0; i < likes.length; i++) {
            x.road(likes[i], 10 * i);
        }
        return x;
    }

    private static void promises1To7() {
        Due.group("1 to 7");
        CrossroadsChoose x = new CrossroadsChoose();
        for (int what = 0; what <= 4; what++) {
            due("new count " + what, x.count(what), 0);
        }
        int[] first = {8, 0, 2, 4};
        for (int what = 4; what <= 7; what++) {
            due("new of " + what, x.of(0, what), first[what - 4]);
            due("of another number", x.of(1, what), VOID);
            due("of below 0", x.of(-1, what), VOID);
        }
        due("road likes above", x.road(10, 0), BAD);
        due("road likes below", x.road(-1, 0), BAD);
        due("road worth above", x.road(0, 100), BAD);
        due("road worth below", x.road(0, -100), BAD);
        for (int i = 0; i < 6; i++) {
            due("road " + i, x.road(i == 0 ? 9 : i, i == 0 ? -99 : 99), i);
            due("dust at first", x.of(i, 1), 1);
            due("wait at first", x.of(i, 3), 0);
        }
        due("road full", x.road(0, 0), FULL);
        due("road full and bad", x.road(10, 0), BAD);
        due("likes kept", x.of(0, 0), 9);
        due("worth kept", x.of(0, 2), -99);
        due("no such road", x.of(6, 0), VOID);
        due("no such what", x.of(0, 8), VOID);
        due("no such what", x.of(0, -1), VOID);
        mends(x);
        roadsFromRows();
        x = new CrossroadsChoose();
        due("feed below", x.feed(-1), BAD);
        due("feed above", x.feed(256), BAD);
        for (int i = 1; i <= 120; i++) {
            due("feed " + i, x.feed(i == 1 ? 255 : 0), i);
        }
        due("feed full", x.feed(48), FULL);
        due("feed full and bad", x.feed(256), BAD);
        due("tape", x.count(1), 120);
        due("law of 255", x.law(), -100);
        due("tape is empty behind a fault", x.count(1), 0);
    }

    private static void mends(CrossroadsChoose x) {
        int[] least = {0, 0, -99, 0, 0, 0, 0, 1}, most = {9, 9, 99, 99, 9, 5, 9, 54};
        for (int what = 0; what < 8; what++) {
            int was = x.of(0, what);
            due("mend below " + what, x.mend(0, what, least[what] - 1), VOID);
            due("mend above " + what, x.mend(0, what, most[what] + 1), VOID);
            due("mend far " + what, x.mend(0, what, MIN), VOID);
            due("mend least " + what, x.mend(0, what, least[what]), was);
            due("mend most " + what, x.mend(0, what, most[what]), least[what]);
            due("of most " + what, x.of(0, what), most[what]);
            due("mend number 6", x.mend(6, what, least[what]), VOID);
            due("mend number -1", x.mend(-1, what, least[what]), VOID);
        }
        due("mend another for these", x.mend(1, 4, 3), VOID);
        due("mend what 8", x.mend(0, 8, 1), VOID);
        due("mend what -1", x.mend(0, -1, 1), VOID);
        due("mend what far", x.mend(0, MAX, 1), VOID);
    }

    private static void roadsFromRows() {
        CrossroadsChoose x = new CrossroadsChoose();
        due("roads missing", x.roads(0, 0, 1), 0);
        due("roads missing, below", x.roads(0, -1, 1), 0);
        due("roads shelf", x.roads(-1, 0, 1), BAD);
        due("roads shelf", x.roads(6, 0, 1), BAD);
        due("roads n 0", x.roads(0, 0, 0), BAD);
        due("roads n 7", x.roads(0, 0, 7), BAD);
        x.body(0);
        x.keep(1, 0);
        due("roads from a body", x.roads(1, 0, 1), -12);
        x.row(1, 1, 9);
        due("roads from shorts, below", x.roads(1, -1, 1), -12);
        Due.row(x, 0, 1, 2, 3, 4, 5, -99, 7, 8, 99, 9, 9);
        due("roads below", x.roads(0, -1, 1), 0);
        due("roads far below", x.roads(0, MIN, 6), 0);
        due("roads far", x.roads(0, MAX, 6), 0);
        due("roads within a three", x.roads(0, 9, 1), 0);
        due("roads two of three", x.roads(0, 0, 2), 2);
        due("roads from 6 on", x.roads(0, 6, 6), 1);
        due("dust", x.of(1, 1), 5);
        due("worth", x.of(1, 2), -99);
        due("likes", x.of(2, 0), 7);
        Due.row(x, 0, 1, 1, 1, 10, 1, 1, 1, 1, 1);
        due("roads likes not so", x.roads(0, 0, 3), 1);
        Due.row(x, 0, 1, 10, 1);
        due("roads dust not so", x.roads(0, 0, 1), 0);
        Due.row(x, 0, 1, 1, 100);
        due("roads worth not so", x.roads(0, 0, 1), 0);
        x.row(0, 0, 18);
        due("roads full", x.roads(0, 0, 6), 2);
        due("roads full", x.roads(0, 0, 6), 0);
        due("roads", x.count(0), 6);
        due("roads are no changes", x.count(2), 0);
    }

    private static void fault(String text, int place) {
        CrossroadsChoose x = crossing(5);
        Due.tell(x, "77");
        due("law " + text, Due.tell(x, text), place < 0 ? 1 : -100 - place);
        if (place >= 0) {
            due("the old law stands behind " + text, x.pull(0, 0), 77);
        }
    }

    private static void lawFaults() {
        Due.group("law, faults");
        fault("", 0);
        fault("l", -1);
        fault("9999", -1);
        fault("12345", 4);
        fault("0000", -1);
        fault("x", 0);
        fault("l ", 1);
        fault("ll", 1);
        fault("l1", 1);
        fault("1l", 1);
        fault("l;", 2);
        fault(";", 0);
        fault("l;;", 2);
        fault("l?", 2);
        fault("l?w", -1);
        fault("l?w?d", 3);
        fault("?l", 0);
        fault("l?w;d?p;c", -1);
        fault("(l?w)", 2);
        fault("(l;w)", 2);
        fault("l|w|d&p&c", -1);
        fault("l<w<d", 3);
        fault("l=w>d", 3);
        fault("(l<w)<d", -1);
        fault("l<w&d=p|c>r", -1);
        fault("l==w", 2);
        fault("l+", 2);
        fault("l+*w", 2);
        fault("l+-w", -1);
        fault("l--w", -1);
        fault("+l", 0);
        fault("l*-w", -1);
        fault("l!w", 1);
        fault("!!l", -1);
        fault("()", 1);
        fault("(l", 2);
        fault("l)", 1);
        fault("(l))", 3);
        fault("((((((l))))))", -1);
        fault("(((((((l)))))))", 6);
        fault("1?((((((l))))))", -1);
        fault("1?(((((((l)))))))", 8);
        fault("0;((((((l))))))?!!!!!!l", -1);
        fault("!!!!!!l", -1);
        fault("!!!!!!!l", 6);
        fault("------l", -1);
        fault("-------l", 6);
        fault("!-(!-(l))", -1);
        fault("!-(!-(-l))", 6);
        fault("!-(!-(l-l))", -1);
        fault("!!!!!!l|!!!!!!l", -1);
        fault("((((((", 6);
        fault("l\u00e9", 1);
        StringBuilder longest = new StringBuilder("l");
        while (longest.length() < 119) {
            longest.append("+l");
        }
        fault(longest.toString(), -1);
        fault(longest + "+", 120);
        fault(longest + ";", 120);
    }

    private static void worth(String text, int want) {
        CrossroadsChoose x = crossing(0, 5);
        x.mend(1, 1, 3);
        x.mend(1, 3, 40);
        due("law " + text, Due.tell(x, text), 1);
        due("pull by " + text, x.pull(1, 27), want);
    }

    /** Of road 1 and comer 27: l 5, w 40, d 3, p 2, c 7, r 1. */
    private static void lawWorths() {
        Due.group("law, worths");
        worth("l", 5);
        worth("w", 40);
        worth("d", 3);
        worth("p", 2);
        worth("c", 7);
        worth("r", 1);
        worth("0012", 12);
        worth("l+w*d", 125);
        worth("(l+w)*d", 135);
        worth("l-d-p", 0);
        worth("w/c/p", 2);
        worth("w%c*d", 15);
        worth("0-c/p", -3);
        worth("-c/p", -3);
        worth("-c%p", -1);
        worth("c%-p", 1);
        worth("l/0", 0);
        worth("l%0", 0);
        worth("9/(r-1)+4", 4);
        worth("!l", 0);
        worth("!0", 1);
        worth("!!l", 1);
        worth("!l+d", 3);
        worth("-l+w", 35);
        worth("-!0", -1);
        worth("l|0", 1);
        worth("0|0", 0);
        worth("l&0", 0);
        worth("l&d", 1);
        worth("1|0&0", 1);
        worth("0&0|1", 1);
        worth("l<w", 1);
        worth("w<l", 0);
        worth("l<5", 0);
        worth("l>4", 1);
        worth("l>5", 0);
        worth("l=5", 1);
        worth("l=w", 0);
        worth("l+1=6", 1);
        worth("1=1&2", 1);
        worth("w*w", 999);
        worth("-w*w", -999);
        worth("999", 999);
        worth("1000", 999);
        worth("0-1000", -999);
        worth("9999*9999*9999", -999);
        worth("9999*9999*9999%1000", (int) (9999L * 9999 * 9999) % 1000);
        worth("(2048*1024*1024-1)/9999%1000", MAX / 9999 % 1000);
        worth("2048*1024*1024<0", 1);
        worth("(2048*1024*1024/-1)%1000", MIN % 1000);
        worth("2048*1024*1024%-1", 0);
        worth("-(2048*1024*1024)<0", 1);
        worth("1?2;3", 2);
        worth("0?2;3", 3);
        worth("0?2", 0);
        worth("0?2;0?3", 0);
        worth("0?2;1?3;4", 3);
        worth("4;1?3", 4);
        worth("0;5", 0);
        worth("-1?7;8", 7);
        worth("l=4?1;w=40?2;3", 2);
        noTextAgain();
    }

    private static void noTextAgain() {
        CrossroadsChoose x = crossing(0, 5);
        due("pull without a text", x.pull(1, 27), 5 + 0 + 1 - 2);
        due("empty text", x.law(), -100);
        due("pull without a text still", x.pull(1, 27), 4);
    }

    private static void promises8And9() {
        Due.group("8, 9");
        CrossroadsChoose x = crossing();
        due("pull of none", x.pull(0, 0), VOID);
        due("has of none", x.has(50), NOT);
        due("has bad", x.has(100), BAD);
        due("has bad", x.has(-1), BAD);
        x = crossing(4, 6, 6);
        due("pull", x.pull(0, 0), 5);
        due("pull of pace", x.pull(0, 90), -4);
        due("pull of load", x.pull(0, 9), 5);
        due("pull bad road", x.pull(3, 0), VOID);
        due("pull bad road", x.pull(-1, 0), VOID);
        due("pull bad comer", x.pull(0, 100), VOID);
        due("pull bad comer", x.pull(0, -1), VOID);
        due("of like ones the least", x.has(0), 1);
        due("79 is asked", x.has(79), 1);
        due("80 runs", x.has(80), 0);
        x.mend(0, 5, 2);
        due("runs by 2", x.has(99), 2);
        x.mend(0, 5, 3);
        due("no road straight", x.has(99), 1);
        x.road(0, 0);
        due("a road straight that came", x.has(99), 3);
        x.mend(0, 4, 0);
        due("all run", x.has(0), 3);
        x.mend(0, 4, 9);
        due("89 does not run", x.has(89), 1);
        due("90 runs", x.has(90), 3);
        x.mend(2, 3, 1);
        due("who waited longer", x.has(0), 2);
        due("nothing changed", x.of(2, 3), 1);
    }

    private static void promises10To12() {
        Due.group("10 to 12");
        CrossroadsChoose x = crossing(3, 2, 0);
        due("last nothing", x.last(0, 1), -11);
        due("day nothing", x.day(0, 1, 0, 0), -11);
        due("unlike nothing", x.unlike(0, 1), -11);
        x.body(0);
        x.keep(0, 0);
        due("last body", x.last(0, 1), -12);
        x.row(0, 2, 3);
        due("last ints", x.last(0, 1), -12);
        due("day ints", x.day(0, 1, 0, 0), -12);
        due("unlike ints", x.unlike(0, 1), -12);
        Due.row(x, 0, 0, 0, 0, 0, 90, 0, 100, 0);
        // 0: road 0 (3 2 0 -> waits 0 1 1), 3 3 1 -> 0 (0 2 2), 3 4 2 -> 1 (1 0 3), 4 2 3 -> 0 (0 1 4), runs -> 0 (0 2 5), 3 4 5 -> 2
        int[] last = {NOT, 0, 0, 1, 0, 0, 2, 2, 2};
        int[] waits2 = {0, 1, 2, 3, 4, 5, 0, 0, 0};
        int[] had0 = {0, 1, 2, 2, 3, 4, 4, 4, 4};
        for (int n = 0; n <= 8; n++) {
            due("last " + n, x.last(0, n), last[n]);
            due("wait of 2 behind " + n, x.day(0, n, 2, 0), waits2[n]);
            due("0 had of " + n, x.day(0, n, 0, 1), had0[n]);
            due("2 had of " + n, x.day(0, n, 2, 1), n < 6 ? 0 : 1);
            due("first of 2 of " + n, x.day(0, n, 2, 2), n < 6 ? NOT : 5);
            due("longest of 2 in " + n, x.day(0, n, 2, 3), Math.min(n, 5));
        }
        due("first of 0", x.day(0, 8, 0, 2), 0);
        due("first of 1", x.day(0, 8, 1, 2), 2);
        due("unlike 0", x.unlike(0, 0), 0);
        due("unlike 4", x.unlike(0, 4), 3);
        due("unlike 60", x.unlike(0, 60), 3);
        due("n above", x.last(0, 61), BAD);
        due("n below", x.last(0, -1), BAD);
        due("unlike n above", x.unlike(0, 61), BAD);
        due("unlike shelf", x.unlike(6, 1), BAD);
        due("day n above", x.day(0, 61, 0, 0), BAD);
        due("day shelf", x.day(6, 1, 0, 0), BAD);
        due("day road", x.day(0, 1, 3, 0), BAD);
        due("day road ahead of -11", x.day(5, 1, 3, 0), BAD);
        due("day what", x.day(0, 1, 0, 4), BAD);
        due("day what", x.day(0, 1, 0, -1), BAD);
        due("nothing changed", x.of(2, 3), 0);
        x.mend(2, 3, 99);
        x.mend(0, 0, 0);
        due("longest now", x.day(0, 1, 2, 3), 99);
        due("wait then", x.day(0, 1, 2, 0), 0);
        Due.row(x, 0, 0, 0, -1, 0);
        due("a byte below ends the day", x.day(0, 60, 1, 1) + x.day(0, 60, 0, 1) + x.day(0, 60, 2, 1), 2);
        Due.tell(x, "r=0");
        due("waits end at 99", x.day(0, 60, 2, 0), 99);
        CrossroadsChoose none = crossing();
        none.row(0, 0, 5);
        none.road(1, 1);
        due("unlike of one road", none.unlike(0, 5), 0);
        none.road(1, 1);
        due("unlike of two", none.unlike(0, 1), 1);
        due("unlike of two", none.unlike(0, 2), 0);
        none = crossing();
        none.row(0, 0, 5);
        due("last without roads", none.last(0, 5), NOT);
        due("unlike without roads", none.unlike(0, 5), 0);
    }

    private static void promises13To16() {
        Due.group("13 to 16");
        CrossroadsChoose x = crossing(5, 5, 0);
        Due.tell(x, "r=0?c>4;r=1?w>2&c=0;0");
        // asked: loads 5 to 9 go by 0; load 0 by 1 if it waits 3 or more; else 0 (the least)
        due("how 0", x.how(0, 0), 100);
        due("how 0 least", x.how(0, 1), 0);
        due("how 1", x.how(1, 0), 0);
        due("how 1 least", x.how(1, 1), NOT);
        due("green", x.green(), 6);
        due("ahead 1", x.ahead(100, -1), 3);
        due("ahead 1 first", x.ahead(100, 0), 0);
        due("ahead 1 third", x.ahead(100, 2), 0);
        due("ahead 1 fourth", x.ahead(100, 3), NOT);
        due("ahead 1 far", x.ahead(100, MAX), NOT);
        due("ahead of load 1", x.ahead(101, -1), NOT);
        due("ahead k", x.ahead(100, -2), BAD);
        due("ahead road", x.ahead(300, -1), BAD);
        due("ahead below", x.ahead(-1, -1), BAD);
        due("ahead far below", x.ahead(MIN, -1), BAD);
        due("ahead far", x.ahead(MAX, -1), BAD);
        due("again 1", x.again(100), 4);
        due("again 0", x.again(0), 1);
        due("again 2", x.again(200), NOT);
        due("again bad", x.again(300), BAD);
        due("again below", x.again(-100), BAD);
        x.mend(1, 3, 3);
        due("how 1 now", x.how(1, 0), 8);
        due("how 1 least now", x.how(1, 1), 0);
        due("green now", x.green(), 4);
        due("how bad", x.how(3, 0), BAD);
        due("how bad", x.how(-1, 0), BAD);
        due("how bad", x.how(0, 2), BAD);
        due("how bad", x.how(0, -1), BAD);
        CrossroadsChoose y = crossing(0, 0, 0);
        y.mend(0, 5, 2);
        Due.tell(y, "r=1?w=1;r=0?w<1");
        // now 0 has all that are asked; behind one by 0: 1; who runs goes by 2
        due("runners go by 2", y.how(2, 1), 80);
        due("a runner told", y.ahead(285, -1), 0);
        due("a runner is not asked", y.ahead(185, -1), NOT);
        due("one who runs ahead", y.ahead(100, -1), 1);
        due("one who runs ahead", y.ahead(100, 0), 80);
        Due.tell(y, "r=1?2*(w=1);r=0");
        due("again at the second", y.again(100), 2);
        Due.tell(y, "r=1?2*(w=9);r=2?w=2;r=0");
        y.mend(1, 3, 7);
        y.mend(0, 5, 1);
        due("two by 0, then 1", y.ahead(100, -1), 2);
        due("two by 0, then 1", y.ahead(100, 1), 0);
        y.mend(0, 5, 2);
        Due.tell(y, "r=0?(c=3)*5;r=1?(w=9)*9;3");
        // from 7: one by 0 or 2, then another: the first by codes go by 2
        due("first by codes", y.ahead(100, 0), 0);
        Due.tell(y, "r=1?(w=9)*9;r=0?(c=3)*5*(w=0);r=2?w+1;c");
        due("first by codes", y.ahead(103, -1), 2);
        due("three at most", y.mend(1, 3, 6), 7);
        due("three at most", y.ahead(103, -1), 3);
        due("three at most", y.mend(1, 3, 5), 6);
        due("three at most", y.ahead(103, -1), NOT);
        Due.tell(y, "r=1?(w=99)*2;r=0");
        y.mend(1, 3, 0);
        due("again 100", y.again(100), 100);
        Due.tell(y, "r=1?-1;0");
        due("again never", y.again(100), NOT);
        againLate();
    }

    /** 0 has him till 2 comes between, then 3 till 2 comes between once more, then 4. */
    private static void againLate() {
        CrossroadsChoose x = crossing(0, 0, 0, 0, 0);
        Due.tell(x, "r=0?(w=0)*9;r=2?(w=99)*10;r=3?(w=0|w=99)*9;r=4?2;0");
        x.mend(2, 3, 1);
        x.mend(3, 3, 1);
        due("again 200", x.again(400), 200);
        due("again of 3", x.again(300), 100);
        x.mend(2, 3, 0);
        due("again 201 is too late", x.again(400), NOT);
        due("waits are as they were", x.of(4, 3), 0);
    }

    private static void promises17And18() {
        Due.group("17, 18");
        CrossroadsChoose x = crossing(1, 7, 3, 7);
        int[] order = {1, 3, 2, 0};
        for (int k = 0; k < 4; k++) {
            due("second " + k, x.second(5, k), order[k]);
        }
        due("second 4", x.second(5, 4), NOT);
        due("second far", x.second(5, MAX), NOT);
        due("second below", x.second(5, -1), BAD);
        due("second comer", x.second(100, 0), BAD);
        due("second comer", x.second(-1, 0), BAD);
        due("second of a runner", x.second(80, 0), 0);
        due("second of a runner", x.second(80, 1), NOT);
        due("sit", x.sit(5, 0), 28);
        due("sit after", x.sit(5, 1), 1);
        due("sit of a runner", x.sit(85, 0), 0);
        due("sit of a runner", x.sit(85, 1), 0);
        x.mend(0, 5, 5);
        due("who runs without a road sits", x.second(85, 1), 3);
        due("who runs without a road sits", x.sit(85, 0), 28);
        x.mend(3, 2, 12);
        due("of like ones the fewest", x.sit(5, 0), 16);
        due("of like ones the fewest", x.sit(5, 1), 2);
        x.mend(2, 2, 14);
        due("of like ones the fewest", x.sit(5, 0), 10);
        due("of like ones the fewest", x.sit(5, 1), 0);
        for (int i = 0; i < 4; i++) {
            x.mend(i, 2, -99);
        }
        x.mend(0, 6, 9);
        due("the best below 0", x.sit(5, 0), -99);
        due("sit what", x.sit(5, 2), VOID);
        due("sit what", x.sit(5, -1), VOID);
        due("sit comer", x.sit(100, 0), VOID);
        due("sit comer", x.sit(-1, 0), VOID);
        CrossroadsChoose none = crossing();
        due("second without roads", none.second(5, 0), NOT);
        due("sit without roads", none.sit(5, 0), VOID);
        due("sit without roads", none.sit(5, 1), VOID);
    }

    private static void promises19And20() {
        Due.group("19, 20");
        CrossroadsChoose x = crossing(0, 0, 0);
        x.mend(0, 1, 3);
        x.mend(1, 1, 2);
        x.mend(0, 7, 4);
        // winning: 01 02? 3+1=4 yes: 01, 02, 012; without any one: 01, 02
        due("power 0", x.power(0, 0), 2);
        due("power 0 below", x.power(0, 1), 3);
        due("power 1", x.power(1, 0), 1);
        due("power 1 below", x.power(1, 1), 6);
        due("winning", x.winning(0), 3);
        due("barely", x.winning(1), 2);
        due("the least", x.winning(2), 3);
        due("needed", x.winning(3), 1);
        due("idle", x.winning(4), 0);
        x.mend(2, 1, 0);
        due("never: 0", x.power(2, 0), 0);
        due("never: 1", x.power(2, 1), 1);
        due("idle", x.winning(4), 4);
        due("needed", x.winning(3), 3);
        due("winning with the idle one", x.winning(0), 2);
        due("barely without the idle one", x.winning(1), 1);
        x.mend(0, 7, 54);
        due("none", x.winning(0), 0);
        due("none", x.winning(1), 0);
        due("none", x.winning(2), NOT);
        due("none", x.winning(3), 0);
        due("all are idle", x.winning(4), 7);
        due("none: power", x.power(0, 0), 0);
        due("none: power", x.power(0, 1), 1);
        due("power bad", x.power(3, 0), Long.MIN_VALUE);
        due("power bad", x.power(-1, 0), Long.MIN_VALUE);
        due("power bad", x.power(0, 2), Long.MIN_VALUE);
        due("power bad", x.power(0, -1), Long.MIN_VALUE);
        due("winning bad", x.winning(5), BAD);
        due("winning bad", x.winning(-1), BAD);
        CrossroadsChoose six = crossing(0, 0, 0, 0, 0, 0);
        for (int i = 0; i < 6; i++) {
            six.mend(i, 1, 9);
        }
        six.mend(0, 7, 54);
        due("all six", six.winning(0), 1);
        due("all six", six.winning(2), 63);
        due("all six", six.winning(3), 63);
        due("one of six", six.power(5, 1), 6);
        six.mend(0, 7, 1);
        due("any", six.winning(0), 63);
        due("any", six.winning(1), 6);
        due("any", six.winning(2), 1);
        due("any", six.winning(3), 0);
    }

    private static void promises21To23() {
        Due.group("21 to 23");
        CrossroadsChoose x = crossing(5, 2, 0);
        due("more for 0", x.more(0), 0);
        due("more for 1", x.more(100), 5);
        due("more for 2", x.more(200), 7);
        x.mend(0, 3, 3);
        due("more, 9 at most: 9 0 for 5 1 3, ties", x.more(200), NOT);
        x.mend(2, 0, 1);
        due("more, 9 at most", x.more(200), 9);
        due("whatever, 9 at most", x.whatever(2, 3), 9);
        x.mend(2, 0, 0);
        x.mend(0, 3, 0);
        due("more of a runner", x.more(90), 0);
        due("more of a runner", x.more(190), NOT);
        x.mend(0, 1, 6);
        due("more, ties", x.more(100), NOT);
        x.mend(1, 1, 9);
        due("whatever its dust is now", x.more(0), 6);
        due("more bad", x.more(300), BAD);
        due("more bad", x.more(-1), BAD);
        due("more bad", x.more(MIN), BAD);
        x.mend(1, 1, 1);
        Due.tell(x, "r=1?d*2-c;0");
        due("whatever 1", x.whatever(1, 0), 5);
        due("whatever 0", x.whatever(0, 0), NOT);
        due("whatever of runners", x.whatever(0, 8), 0);
        due("whatever of runners", x.whatever(1, 9), NOT);
        due("whatever bad", x.whatever(3, 0), BAD);
        due("whatever bad", x.whatever(-1, 0), BAD);
        due("whatever bad", x.whatever(0, 10), BAD);
        due("whatever bad", x.whatever(0, -1), BAD);
        due("dust is as it was", x.of(1, 1), 1);
        due("least of none", crossing().least(), NOT);
        CrossroadsChoose y = crossing(5, 2, 2);
        due("least, ties", y.least(), 1);
        y.mend(1, 3, 1);
        due("least by wait", y.least(), 2);
        y.mend(2, 1, 9);
        due("least by dust", y.least(), 1);
        Due.tell(y, "0-l");
        due("least is not by the law", y.least(), 1);
    }

    private static void promises24To26() {
        Due.group("24 to 26");
        CrossroadsChoose x = crossing(3, 2, 0);
        due("judge bad", x.judge(6), BAD);
        due("judge bad", x.judge(-1), BAD);
        due("judge nothing", x.judge(0), -11);
        due("liking nothing", x.liking(0, 0, 0), -11);
        due("waited nothing", x.waited(0, 0, 0), -11);
        x.row(0, 3, 2);
        due("judge longs", x.judge(0), -12);
        due("liking longs", x.liking(0, 0, 0), -12);
        due("waited longs", x.waited(0, 0, 0), -12);
        due("liking road ahead", x.liking(0, 3, 0), BAD);
        due("waited road ahead", x.waited(0, -1, 0), BAD);
        due("liking what", x.liking(0, 0, 2), BAD);
        due("waited what", x.waited(0, 0, -1), BAD);
        due("waited what", x.waited(0, 0, 2), BAD);
        due("liking what", x.liking(0, 0, -1), BAD);
        Due.row(x, 0);
        due("judge of an empty row", x.judge(0), NOT);
        due("liking of an empty row", x.liking(0, 1, 0), 10);
        due("waited of an empty row", x.waited(0, 1, 0), 21);
        Due.row(x, 0, 0, 0, 0, 0, 0, 1, 0, 0, 95, 0, 0, 2);
        due("all is so", x.judge(0), NOT);
        Due.row(x, 0, 0, 0, 0, 0, 0, 1, 0, 1);
        due("the fourth is not", x.judge(0), 3);
        Due.row(x, 0, 0, 0, 0);
        due("half a two", x.judge(0), 1);
        Due.row(x, 0, 0, 0, 100, 0);
        due("no comer", x.judge(0), 1);
        Due.row(x, 0, 0, 0, -1, 0);
        due("no comer", x.judge(0), 1);
        Due.row(x, 0, 0, 3);
        due("no road", x.judge(0), 0);
        Due.row(x, 0, 0, -2);
        due("no road", x.judge(0), 0);
        CrossroadsChoose none = crossing();
        Due.row(none, 0, 0, -2);
        due("nobody had him, but that is no road", none.judge(0), 0);
        Due.row(x, 0, 0, 0, 0, 1);
        // road 0 with likes l: l >= 2 has the first; then 1 wants 2+1+1=4 and 0 wants l+1: l < 3
        due("liking 0", x.liking(0, 0, 0), 1);
        due("liking 0 least", x.liking(0, 0, 1), 2);
        // road 1 with wait w: 2+w+1 <= 4: w <= 1; then 2+w+1+1 > 4: w >= 1
        due("waited 1", x.waited(0, 1, 0), 1);
        due("waited 1 greatest", x.waited(0, 1, 1), 1);
        due("liking 2", x.liking(0, 2, 0), 0);
        due("liking 2 least", x.liking(0, 2, 1), NOT);
        due("waited 2", x.waited(0, 2, 1), NOT);
        due("likes are as they were", x.of(0, 0), 3);
        due("waits are as they were", x.of(1, 3), 0);
        Due.row(x, 0, 0, 2);
        due("waited up to 20", x.waited(0, 2, 0), 17);
        due("waited up to 20", x.waited(0, 2, 1), 20);
        due("liking up to 9", x.liking(0, 2, 0), 6);
        due("liking up to 9", x.liking(0, 2, 1), 4);
    }

    private static void promises27And28() {
        Due.group("27, 28");
        CrossroadsChoose x = crossing(3, 2, 0);
        due("fair nothing", x.fair(0, 0), VOID);
        x.row(0, 4, 3);
        due("fair booleans", x.fair(0, 0), VOID);
        Due.row(x, 0, 0, 85, 0, 0, 100, 0);
        due("by turns", x.fair(0, 0), 0 + 10 + 20 + 0);
        // 3 2 0: 0 (0 1 1); runs: 0 (0 2 2); 3 4 2: 1 (1 0 3); 4 2 3: 0
        due("by the crossing", x.fair(0, 1), 10);
        due("fair what", x.fair(0, 2), VOID);
        due("fair what", x.fair(0, -1), VOID);
        due("fair shelf", x.fair(6, 0), VOID);
        due("fair shelf", x.fair(-1, 0), VOID);
        CrossroadsChoose none = crossing();
        none.row(0, 0, 2);
        due("fair without roads", none.fair(0, 0), VOID);
        due("fair without roads", none.fair(0, 1), VOID);
        due("drawn without roads", none.drawn(5, 101, -1), 0);
        due("drawn without roads", none.drawn(5, 101, 0), VOID);
        due("drawn without days", x.drawn(5, 1, 0), VOID);
        due("drawn without comers", x.drawn(5, 100, 0), VOID);
        due("drawn 31 days", x.drawn(5, 3101, 0), VOID);
        due("drawn 61 comers", x.drawn(5, 161, 0), VOID);
        due("drawn below", x.drawn(5, -101, 0), VOID);
        due("drawn far below", x.drawn(5, MIN, 0), VOID);
        due("drawn far", x.drawn(5, MAX, 0), VOID);
        due("drawn road", x.drawn(5, 101, 3), VOID);
        due("drawn road", x.drawn(5, 101, -2), VOID);
        drawnByHand();
    }

    private static void drawnByHand() {
        CrossroadsChoose x = crossing(0, 0);
        Due.tell(x, "r=0?p<5;w>1");
        x.mend(0, 4, 9);
        x.mend(0, 5, 1);
        for (int seed : new int[] {0, 1, -1, 7, MAX, MIN}) {
            int z = seed, had1 = 0;
            for (int day = 0; day < 30; day++) {
                int wait1 = 0;
                for (int i = 0; i < 60; i++) {
                    z = z * 1103515245 + 12345;
                    int code = (z >>> 8) % 100, p = code / 10;
                    int want0 = p < 5 ? 1 : 0, want1 = wait1 > 1 ? 1 : 0;
                    boolean one = p >= 9 || want1 > want0;
                    had1 += one ? 1 : 0;
                    wait1 = one ? 0 : wait1 + 1;
                }
            }
            due("drawn by " + seed, x.drawn(seed, 3060, 1), had1);
            due("drawn by " + seed, x.drawn(seed, 3060, 0), 1800 - had1);
            due("drawn by " + seed, x.drawn(seed, 3060, -1), 10 * had1);
        }
    }

    private static void promises29To31() {
        Due.group("29 to 31");
        CrossroadsChoose x = crossing();
        due("comes without roads", x.comes(0), STATE);
        due("comes bad", x.comes(100), BAD);
        due("comes bad", x.comes(-1), BAD);
        due("send bad", x.send(0), BAD);
        due("led latest", x.led(4), NOT);
        due("led bad", x.led(5), VOID);
        due("led bad", x.led(-1), VOID);
        for (int what = 0; what < 4; what++) {
            due("led " + what, x.led(what), 0);
        }
        x = crossing(3, 2, 0);
        due("comes", x.comes(0), 0);
        due("comes running", x.comes(80), 0);
        due("comes", x.comes(0), 1);
        due("waits", x.of(0, 3), 1);
        due("waits", x.of(1, 3), 0);
        due("waits", x.of(2, 3), 3);
        due("send: the wait till then", x.send(2), 3);
        due("waits", x.of(0, 3), 2);
        due("waits", x.of(2, 3), 0);
        due("led comers", x.led(0), 3);
        due("led runners", x.led(1), 1);
        due("led sent", x.led(2), 1);
        due("led worth", x.led(3), 30);
        due("led latest", x.led(4), 2);
        x.mend(2, 2, -50);
        due("worth as it was then", x.led(3), 30);
        x.mend(0, 5, 4);
        due("no road straight", x.comes(99) >= 0 ? 1 : 0, 1);
        due("is no runner", x.led(1), 1);
        due("send bad", x.send(3), BAD);
        due("send bad", x.send(-1), BAD);
        x.mend(1, 3, 99);
        x.send(0);
        due("waits end at 99", x.of(1, 3), 99);
        due("deeds are no changes", x.count(2), 3);
    }

    private static void promises32To35() {
        Due.group("32 to 35");
        CrossroadsChoose x = crossing(3, 2);
        due("back of none", x.back(), STATE);
        x.comes(0);
        due("image", x.image(), 1);
        x.comes(0);
        x.send(1);
        x.road(1, 1);
        x.send(0);
        x.mend(0, 0, 9);
        due("back", x.back(), 1);
        due("wait", x.of(0, 3), 0);
        due("wait", x.of(1, 3), 1);
        due("wait of one that came since", x.of(2, 3), 1);
        due("likes are as they are", x.of(0, 0), 9);
        due("sent", x.led(2), 0);
        due("worth", x.led(3), 0);
        due("latest", x.led(4), 0);
        x.comes(0);
        due("back again", x.back(), 1);
        x.comes(0);
        due("another image", x.image(), 2);
        x.comes(0);
        due("back to the other", x.back(), 2);
        changes();
        manyChanges();
    }

    private static void changes() {
        CrossroadsChoose x = crossing(3, 2);
        due("undo none", x.undo(), STATE);
        due("redo none", x.redo(), STATE);
        x.mend(0, 0, 3);
        due("the same number is none", x.undo(), STATE);
        x.mend(0, 0, 5);
        x.mend(0, 3, 7);
        x.mend(0, 7, 9);
        x.mend(9, 9, 9);
        due("three", x.count(2), 3);
        due("undo", x.undo(), 2);
        due("quota", x.of(0, 7), 4);
        x.send(0);
        due("undo a wait", x.undo(), 1);
        due("as ahead of its change", x.of(0, 3), 0);
        x.send(1);
        due("redo a wait", x.redo(), 1);
        due("wait", x.of(0, 3), 7);
        x.mend(0, 3, 7);
        due("the same number does not end redo", x.redo(), 0);
        due("quota", x.of(0, 7), 9);
        due("redo none", x.redo(), STATE);
        due("undo", x.undo(), 2);
        due("undo", x.undo(), 1);
        due("undo", x.undo(), 0);
        due("undo none", x.undo(), STATE);
        due("likes", x.of(0, 0), 3);
        due("redo", x.redo(), 2);
        x.mend(1, 2, 8);
        due("another came behind", x.redo(), STATE);
        due("two", x.count(2), 2);
        due("undo", x.undo(), 1);
        due("worth", x.of(1, 2), 10);
        due("likes still", x.of(0, 0), 5);
    }

    private static void manyChanges() {
        CrossroadsChoose x = crossing(3);
        for (int i = 1; i <= 45; i++) {
            x.mend(0, 2, i);
            due("kept", x.count(2), Math.min(i, 40));
        }
        for (int i = 39; i >= 0; i--) {
            due("undo", x.undo(), i);
            due("worth", x.of(0, 2), i + 5);
        }
        due("no more", x.undo(), STATE);
        for (int i = 39; i >= 0; i--) {
            due("redo", x.redo(), i);
            due("worth", x.of(0, 2), 45 - i);
        }
        due("no more", x.redo(), STATE);
        x.undo();
        x.mend(0, 2, 99);
        due("still 40", x.count(2), 40);
        x.mend(0, 2, 98);
        due("40 at most", x.count(2), 40);
        due("undo", x.undo(), 39);
        due("worth", x.of(0, 2), 99);
    }

    private static void promises36To38() {
        Due.group("36 to 38");
        CrossroadsChoose x = crossing();
        due("body bad", x.body(8), BAD);
        due("body bad", x.body(-1), BAD);
        for (int i = 0; i < 50; i++) {
            due("body " + i, x.body(i % 8), i);
        }
        due("body full", x.body(0), FULL);
        due("body full and bad", x.body(8), BAD);
        trace(x, 0, 3, 5, (5 + 0) * 2 - (1 ^ 0), 2, 10, 1, 11);
        trace(x, 9, 1, 5, (5 + 9 + 3) * 2, 10, 20, 1);
        trace(x, 10, 1, 5, -(5 + 10) * 2, 30, 10, 1);
        trace(x, 11, 3, 5, -(6 + 11) * 2 - (1 ^ 11) * 3, 2, 41, 30, 10, 1, 40, 11);
        trace(x, 12, 3, 5, ((5 + 12 + 3) * 2 - (1 ^ 12)) ^ 5, 50, 2, 10, 20, 1, 11);
        trace(x, 13, 2, 4, (4 ^ 13) * 3 - (2 + 13), 60, 40, 11, 1);
        trace(x, 13, 3, 5, -(6 + 13) * 2 - ((1 ^ 13) * 3 - 15) + 1, 61, 2, 41, 30, 10, 1, 60, 40, 11, 1);
        trace(x, 14, 0, 5, (5 + 14) * 2, 70, 1);
        trace(x, 15, 1, 5, ((5 + 15) * 2 - 1) * 2 + (2 ^ 15), 80, 10, 81, 70, 1, 11);
        trace(x, 15, 3, 5, ((5 + 15) * 2 - 1) * 2 + (2 ^ 15) - (1 ^ 15), 2, 80, 10, 81, 70, 1, 11, 11);
        trace(x, 7, 0, MAX, (MAX + 7) * 2 - 1, 81, 70, 1);
        trace(x, 3, 1, MAX, -(MIN + 3) * 2, 41, 30, 10, 1);
        int[][] wrong = {{50, 0}, {-1, 0}, {0, 4}, {0, -1}, {MAX, 0}, {MIN, MIN}};
        for (int[] pair : wrong) {
            x.act(0, 0, 1);
            due("act of what there is not", x.act(pair[0], pair[1], 1), 0);
            due("ran", x.count(4), 0);
            due("no trace", x.trace(0), BAD);
        }
    }

    private static void trace(CrossroadsChoose x, int body, int act, int at, int want, int... bodies) {
        String call = "act(" + body + ", " + act + ", " + at + ")";
        due(call, x.act(body, act, at), want);
        due(call + " ran", x.count(4), bodies.length);
        for (int i = 0; i < bodies.length; i++) {
            due(call + " trace " + i, x.trace(i), bodies[i]);
        }
        due(call + " trace end", x.trace(bodies.length), BAD);
        due(call + " trace below", x.trace(-1), BAD);
    }

    private static void promises39To42() {
        Due.group("39 to 42");
        CrossroadsChoose x = crossing();
        due("keep none such", x.keep(0, 0), BAD);
        due("keep below", x.keep(0, -2), BAD);
        due("keep shelf", x.keep(6, -1), BAD);
        due("keep shelf", x.keep(-1, -1), BAD);
        x.body(3);
        due("keep", x.keep(0, 0), 1);
        due("put into a body", x.put(0, 0, 1), -12);
        due("element of a body", x.element(0, 0), Long.MIN_VALUE);
        due("keep nothing", x.keep(0, -1), 1);
        due("put into nothing", x.put(0, 0, 1), -11);
        due("element of nothing", x.element(0, 0), Long.MIN_VALUE);
        due("row sort", x.row(0, 5, 1), BAD);
        due("row sort", x.row(0, -1, -1), BAD);
        due("row above", x.row(0, 0, 61), BAD);
        due("row below", x.row(0, 0, -1), -14);
        due("row shelf", x.row(6, 0, -1), BAD);
        due("still nothing", x.put(0, 0, 1), -11);
        due("row of 0", x.row(0, 0, 0), 1);
        due("no place", x.put(0, 0, 1), -13);
        long[] in = {300, -1, 128, 65535, 40000, 1L << 31, (1L << 32) + 5, Long.MIN_VALUE, 2, 0, 256};
        for (int sort = 0; sort <= 4; sort++) {
            due("row", x.row(1, sort, 60), 1);
            due("at first", x.element(1, 59), 0);
            for (long v : in) {
                due("put", x.put(1, 59, v), 1);
                due("sort " + sort + " of " + v, x.element(1, 59), narrowed(sort, v));
            }
            due("put behind", x.put(1, 60, 1), -13);
            due("put ahead", x.put(1, -1, 1), -13);
            due("element behind", x.element(1, 60), Long.MIN_VALUE);
            due("element far", x.element(1, MIN), Long.MIN_VALUE);
        }
        due("put shelf", x.put(6, -1, 1), BAD);
        due("element shelf", x.element(-1, 0), Long.MIN_VALUE);
        x.row(1, 0, 60);
        due("anew", x.element(1, 59), 0);
    }

    private static long narrowed(int sort, long v) {
        switch (sort) {
            case 0: return (byte) v;
            case 1: return (short) v;
            case 2: return (int) v;
            case 3: return v;
            default: return v == 0 ? 0 : 1;
        }
    }

    private static void promises43To45() {
        Due.group("43 to 45");
        CrossroadsChoose x = crossing();
        Due.row(x, 0, 1, 2, 3, 4, 5);
        due("shift", x.shift(0, 0, 0, 1, 4), 4);
        due("as they all were", x.element(0, 4), 4);
        due("as they all were", x.element(0, 1), 1);
        due("shift down", x.shift(0, 1, 0, 0, 4), 4);
        due("as they all were", x.element(0, 0), 1);
        due("as they all were", x.element(0, 3), 4);
        x.row(1, 0, 3);
        due("to another", x.shift(0, 2, 1, 0, 3), 3);
        due("to another", x.element(1, 0), 3);
        due("no more room", x.shift(0, 0, 1, 0, 4), -13);
        due("none at the end", x.shift(0, 5, 1, 3, 0), 0);
        due("none behind the end", x.shift(0, 6, 1, 3, 0), -13);
        due("none behind the end", x.shift(0, 5, 1, 4, 0), -13);
        due("below", x.shift(0, -1, 1, 0, 1), -13);
        due("below", x.shift(0, 0, 1, -1, 1), -13);
        due("n below", x.shift(0, 0, 1, 0, -1), -13);
        due("far", x.shift(0, 1, 1, 1, MAX), -13);
        due("far", x.shift(0, MAX, 1, 1, MAX), -13);
        due("far below", x.shift(0, 0, 1, 0, MIN), -13);
        due("nothing there", x.shift(0, 0, 2, 0, -1), -11);
        due("nothing there", x.shift(2, 0, 0, 0, 1), -11);
        due("shelf", x.shift(6, 0, 2, 0, 1), BAD);
        due("shelf", x.shift(2, 0, -1, 0, 1), BAD);
        x.body(4);
        x.keep(3, 0);
        due("a body and nothing", x.shift(3, 0, 2, 0, 1), -11);
        due("a body", x.shift(3, 0, 0, 0, -1), -12);
        due("a body", x.shift(0, 0, 3, 0, 1), -12);
        x.row(2, 1, 5);
        due("unlike sorts", x.shift(0, 0, 2, 0, -1), -12);
        taken(x);
        due("count bodies", x.count(3), 9);
        due("count bad", x.count(5), BAD);
        due("count bad", x.count(-1), BAD);
        x.feed(108);
        due("count tape", x.count(1), 1);
        due("law", x.law(), 1);
        due("count tape", x.count(1), 0);
    }

    private static void taken(CrossroadsChoose x) {
        String[] above = {"0", "10", "20", "320", "410", "5320", "60", "760"};
        for (int kind = 0; kind < 8; kind++) {
            x.keep(4, x.body(kind));
            for (int k = 0; k < 8; k++) {
                boolean under = above[kind].indexOf('0' + k) >= 0;
                due("kind " + kind + " as " + k, x.taken(4, k), under ? kind : -12);
            }
        }
        due("taken k", x.taken(4, 8), BAD);
        due("taken k", x.taken(4, -1), BAD);
        due("taken shelf", x.taken(6, 0), BAD);
        due("taken nothing", x.taken(5, 0), -11);
        due("taken a row", x.taken(0, 0), -12);
    }
}

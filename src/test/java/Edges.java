/** What the tests of edges have in common: the answers' names, and crossings made in a line. */
abstract class Edges {
    static final int BAD = -1, NOT = -2, FULL = -3, STATE = -5, VOID = -2000000000;
    static final int NOTHING_THERE = -11, OTHER_KIND = -12, NO_PLACE = -13, BELOW_ZERO = -14;
    static final int MIN = Integer.MIN_VALUE, MAX = Integer.MAX_VALUE;
    static final long NONE = Long.MIN_VALUE;

    /** A sentence of the document, as it stands there or shortened; what is due behind it is its test. */
    static void says(String sentence) {
        Due.says(sentence);
    }

    static void due(String call, long got, long want) {
        Due.due(call, got, want);
    }

    /** A crossing with roads of these LIKES, of WORTH 0. */
    static CrossroadsChoose roads(int... likes) {
        CrossroadsChoose x = new CrossroadsChoose();
        for (int like : likes) {
            x.road(like, 0);
        }
        return x;
    }

    /** A crossing with so many roads of LIKES 0 whose law is told. */
    static CrossroadsChoose by(String law, int many) {
        CrossroadsChoose x = roads(new int[many]);
        due("law " + law, tell(x, law), 1);
        return x;
    }

    /** The law is told by a text; what law() answers. */
    static int tell(CrossroadsChoose x, String law) {
        return Due.tell(x, law);
    }

    static void bytes(CrossroadsChoose x, int shelf, int... bytes) {
        Due.row(x, shelf, bytes);
    }

    /** A row of n like bytes. */
    static void likeBytes(CrossroadsChoose x, int shelf, int n, int each) {
        int[] all = new int[n];
        java.util.Arrays.fill(all, each);
        Due.row(x, shelf, all);
    }

    /** On shelves 1 to 5: a body, and a row of each sort but bytes; shelf 0 holds nothing. */
    static void otherKinds(CrossroadsChoose x) {
        x.keep(0, -1);
        x.keep(1, x.body(0));
        for (int sort = 1; sort <= 4; sort++) {
            x.row(1 + sort, sort, 9);
        }
    }
}

import java.util.Arrays;

/** A crossing whose roads settle between them which has whoever comes up; ../shared/DOC.md tells each call. */
public final class CrossroadsChoose {
    public static final int BAD = -1, NOT = -2, FULL = -3, STATE = -5, VOID = -2000000000;

    private static final int NOTHING_THERE = -11, OTHER_KIND = -12, NO_PLACE = -13, BELOW_ZERO = -14;
    private static final int LIKES = 0, DUST = 1, WORTH = 2, WAIT = 3;
    private static final int RUN = 4, STRAIGHT = 5, SIT = 6, QUOTA = 7;
    private static final int[] LOWEST = {0, 0, -99, 0, 0, 0, 0, 1};
    private static final int[] HIGHEST = {9, 9, 99, 99, 9, 5, 9, 54};
    private static final int MAX_ROADS = 6, CODES = 100, MAX_ELEMENTS = 60, MAX_SHELVES = 6;
    private static final int MAX_AHEAD = 3, MAX_AGAIN = 200, MAX_WAIT_ASKED = 20, MAX_DAYS = 30;
    private static final int LED_COMERS = 0, LED_RUNNERS = 1, LED_SENT = 2, LED_WORTH = 3, LED_LATEST = 4;
    private static final int LED_NUMBERS = 5;

    private final Crossing now;
    private final Thought thought;
    private final Tape tape = new Tape();
    private final Changes changes = new Changes();
    private final Image kept = new Image();
    private final Bodies bodies = new Bodies();
    private final Shelf[] shelves = new Shelf[MAX_SHELVES];
    private final int[] ledger = new int[LED_NUMBERS];
    private final int[] sentAhead = new int[MAX_AHEAD];
    private final int[][] waitsAhead = new int[MAX_AHEAD][MAX_ROADS];
    private Law draft = new Law();

    public CrossroadsChoose() {
        Law untold = new Law();
        now = new Crossing(untold);
        thought = new Thought(untold);
        ledger[LED_LATEST] = NOT;
        for (int i = 0; i < MAX_SHELVES; i++) {
            shelves[i] = new Shelf();
        }
    }

    // ---- roads

    public int road(int likes, int worth) {
        if (!fits(LIKES, likes) || !fits(WORTH, worth)) {
            return BAD;
        }
        return now.isFull() ? FULL : now.add(likes, 1, worth);
    }

    public int roads(int shelf, int i, int n) {
        Shelf row = shelfAt(shelf);
        if (row == null || n < 1 || n > MAX_ROADS) {
            return BAD;
        }
        if (row.holdsNothing()) {
            return 0;
        }
        if (!row.holdsBytes()) {
            return OTHER_KIND;
        }
        int came = 0;
        while (came < n && addedFrom(row, i + 3 * came)) {
            came++;
        }
        return came;
    }

    private boolean addedFrom(Shelf row, int at) {
        if (!row.hasRoom(at, 3) || now.isFull()) {
            return false;
        }
        int likes = row.small(at), dust = row.small(at + 1), worth = row.small(at + 2);
        if (!fits(LIKES, likes) || !fits(DUST, dust) || !fits(WORTH, worth)) {
            return false;
        }
        return now.add(likes, dust, worth) >= 0;
    }

    public int mend(int number, int what, int v) {
        int was = now.number(number, what);
        if (was == VOID || !fits(what, v)) {
            return VOID;
        }
        if (was != v) {
            changes.note(number, what, was, v);
            now.become(number, what, v);
        }
        return was;
    }

    public int of(int number, int what) {
        return now.number(number, what);
    }

    public int feed(int letter) {
        if (letter < 0 || letter > 255) {
            return BAD;
        }
        return tape.isFull() ? FULL : tape.add(letter);
    }

    public int law() {
        int fault = tape.readInto(draft);
        if (fault >= 0) {
            return -100 - fault;
        }
        Law old = now.law;
        now.law = draft;
        draft = old;
        return 1;
    }

    private static boolean fits(int what, int v) {
        return what >= LIKES && what <= QUOTA && v >= LOWEST[what] && v <= HIGHEST[what];
    }

    // ---- comers in thought

    public int pull(int road, int comer) {
        return now.isRoad(road) && isComer(comer) ? now.wants(road, comer) : VOID;
    }

    public int has(int comer) {
        return isComer(comer) ? now.haver(comer) : BAD;
    }

    public int last(int shelf, int n) {
        int refused = dayRefusal(shelf, n);
        if (refused != 0) {
            return refused;
        }
        thinkDay(shelfAt(shelf), n);
        return thought.latest;
    }

    public int day(int shelf, int n, int road, int what) {
        int refused = dayRefusal(shelf, n);
        if (refused == BAD || !now.isRoad(road) || what < 0 || what > 3) {
            return BAD;
        }
        if (refused != 0) {
            return refused;
        }
        thinkDay(shelfAt(shelf), n);
        switch (what) {
            case 0: return thought.crossing.number(road, WAIT);
            case 1: return thought.had[road];
            case 2: return thought.first[road];
            default: return thought.longest[road];
        }
    }

    public int unlike(int shelf, int n) {
        int refused = dayRefusal(shelf, n);
        if (refused != 0) {
            return refused;
        }
        thinkDay(shelfAt(shelf), n);
        return thought.unlikeness();
    }

    public int how(int road, int what) {
        if (!now.isRoad(road) || what < 0 || what > 1) {
            return BAD;
        }
        int many = 0, least = NOT;
        for (int comer = CODES - 1; comer >= 0; comer--) {
            if (now.haver(comer) == road) {
                many++;
                least = comer;
            }
        }
        return what == 0 ? many : least;
    }

    public int ahead(int rc, int k) {
        if (!isPair(rc) || k < -1) {
            return BAD;
        }
        thought.begin(now);
        for (int many = 0; many <= MAX_AHEAD; many++) {
            if (reaches(rc, 0, many)) {
                return k < 0 ? many : k < many ? sentAhead[k] : NOT;
            }
        }
        return NOT;
    }

    /** Whether sending left more comers ahead of those already sent gives the pair; keeps the first such codes. */
    private boolean reaches(int rc, int sent, int left) {
        Crossing crossing = thought.crossing;
        if (left <= 0 || sent < 0 || sent >= MAX_AHEAD) {
            return crossing.haver(rc % CODES) == rc / CODES;
        }
        crossing.giveWaits(waitsAhead[sent]);
        int tried = 0, all = (1 << crossing.roads) - 1;
        for (int comer = 0; comer < CODES && tried != all; comer++) {
            int road = crossing.haver(comer);
            // what comes behind hangs on the road alone, so the least code of each road is enough
            if (road < 0 || (tried >> road & 1) != 0) {
                continue;
            }
            tried |= 1 << road;
            sentAhead[sent] = comer;
            crossing.settle(road);
            if (reaches(rc, sent + 1, left - 1)) {
                return true;
            }
            crossing.takeWaits(waitsAhead[sent], crossing.roads);
        }
        return false;
    }

    public int again(int rc) {
        if (!isPair(rc)) {
            return BAD;
        }
        thought.begin(now);
        for (int time = 1; time <= MAX_AGAIN; time++) {
            if (thought.meet(rc % CODES) == rc / CODES) {
                return time;
            }
        }
        return NOT;
    }

    public int green() {
        int green = now.allRoads();
        for (int comer = 0; comer < CODES && green != 0; comer++) {
            int road = now.haver(comer);
            if (road >= 0) {
                green &= ~(1 << road);
            }
        }
        return green;
    }

    public int second(int comer, int k) {
        return isComer(comer) && k >= 0 ? now.asked(comer, k) : BAD;
    }

    public int sit(int comer, int what) {
        if (!isComer(comer) || what < 0 || what > 1 || now.roads == 0) {
            return VOID;
        }
        int best = VOID, sittings = 0;
        for (int k = 0; k < now.roads; k++) {
            int road = now.asked(comer, k);
            if (road < 0) {
                break;
            }
            int worth = now.number(road, WORTH) - k * now.number(0, SIT);
            if (worth > best) {
                best = worth;
                sittings = k;
            }
        }
        return what == 0 ? best : sittings;
    }

    private static boolean isComer(int comer) {
        return comer >= 0 && comer < CODES;
    }

    /** Whether rc is 100 times a road that is there, and a comer. */
    private boolean isPair(int rc) {
        return rc >= 0 && now.isRoad(rc / CODES);
    }

    private int dayRefusal(int shelf, int n) {
        return n < 0 || n > MAX_ELEMENTS ? BAD : bytesRefusal(shelf);
    }

    /** 0 if a row of bytes is on the shelf. */
    private int bytesRefusal(int shelf) {
        int refused = rowRefusal(shelf);
        if (refused != 0) {
            return refused;
        }
        Shelf row = shelfAt(shelf);
        return row != null && row.holdsBytes() ? 0 : OTHER_KIND;
    }

    private void thinkDay(Shelf row, int n) {
        thought.begin(now);
        if (row == null) {
            return;
        }
        int comers = row.comers(n);
        for (int i = 0; i < comers; i++) {
            thought.meet(row.small(i));
        }
    }

    // ---- votes

    public long power(int road, int part) {
        if (!now.isRoad(road) || part < 0 || part > 1) {
            return Long.MIN_VALUE;
        }
        return Votes.powerOf(now, road, part);
    }

    public int winning(int what) {
        return what < 0 || what > 4 ? BAD : Votes.winners(now, what);
    }

    public int more(int rc) {
        if (!isPair(rc)) {
            return BAD;
        }
        thought.begin(now);
        for (int dust = LOWEST[DUST]; dust <= HIGHEST[DUST]; dust++) {
            thought.crossing.become(rc / CODES, DUST, dust);
            if (thought.crossing.haver(rc % CODES) == rc / CODES) {
                return dust;
            }
        }
        return NOT;
    }

    public int whatever(int road, int pace) {
        if (!now.isRoad(road) || pace < 0 || pace > 9) {
            return BAD;
        }
        thought.begin(now);
        for (int dust = LOWEST[DUST]; dust <= HIGHEST[DUST]; dust++) {
            thought.crossing.become(road, DUST, dust);
            if (thought.crossing.hasAllOf(road, pace)) {
                return dust;
            }
        }
        return NOT;
    }

    public int least() {
        int least = NOT, fewest = 0;
        for (int road = 0; road < now.roads; road++) {
            int sum = now.number(road, LIKES) + now.number(road, WAIT) + now.number(road, DUST);
            if (least == NOT || sum < fewest) {
                least = road;
                fewest = sum;
            }
        }
        return least;
    }

    // ---- books, turns

    public int judge(int shelf) {
        int refused = bytesRefusal(shelf);
        if (refused != 0) {
            return refused;
        }
        thought.begin(now);
        return firstWrong(shelfAt(shelf));
    }

    public int liking(int shelf, int road, int what) {
        int refused = bytesRefusal(shelf);
        if (refused == BAD || !now.isRoad(road) || what < 0 || what > 1) {
            return BAD;
        }
        if (refused != 0) {
            return refused;
        }
        int many = 0, least = NOT;
        for (int likes = HIGHEST[LIKES]; likes >= LOWEST[LIKES]; likes--) {
            thought.begin(now);
            thought.crossing.become(road, LIKES, likes);
            if (firstWrong(shelfAt(shelf)) == NOT) {
                many++;
                least = likes;
            }
        }
        return what == 0 ? many : least;
    }

    public int waited(int shelf, int road, int what) {
        int refused = bytesRefusal(shelf);
        if (refused == BAD || !now.isRoad(road) || what < 0 || what > 1) {
            return BAD;
        }
        if (refused != 0) {
            return refused;
        }
        int many = 0, greatest = NOT;
        for (int wait = 0; wait <= MAX_WAIT_ASKED; wait++) {
            thought.begin(now);
            thought.crossing.become(road, WAIT, wait);
            if (firstWrong(shelfAt(shelf)) == NOT) {
                many++;
                greatest = wait;
            }
        }
        return what == 0 ? many : greatest;
    }

    /** The first two of a book that is not so, from the thought as it stands. */
    private int firstWrong(Shelf book) {
        if (book == null) {
            return NOT;
        }
        for (int two = 0; two < (book.length + 1) / 2; two++) {
            int comer = book.small(2 * two);
            if (!book.hasRoom(2 * two, 2) || !isComer(comer)) {
                return two;
            }
            int road = book.small(2 * two + 1);
            // a road that is none is asked after first: a byte may look like the answer NOT
            if (!now.isRoad(road) || thought.meet(comer) != road) {
                return two;
            }
        }
        return NOT;
    }

    public int fair(int shelf, int what) {
        if (bytesRefusal(shelf) != 0 || what < 0 || what > 1 || now.roads == 0) {
            return VOID;
        }
        Shelf row = shelfAt(shelf);
        if (what == 1) {
            thinkDay(row, MAX_ELEMENTS);
            return thought.worth;
        }
        int comers = row == null ? 0 : row.comers(MAX_ELEMENTS);
        int worth = 0;
        for (int i = 0, turn = 0; i < comers; i++) {
            worth += now.number(turn, WORTH);
            turn = turn + 1 < now.roads ? turn + 1 : 0;
        }
        return worth;
    }

    public int drawn(int seed, int nm, int road) {
        int days = nm / 100, comers = nm % 100;
        if (days < 1 || days > MAX_DAYS || comers < 1 || comers > MAX_ELEMENTS) {
            return VOID;
        }
        if (road != -1 && !now.isRoad(road)) {
            return VOID;
        }
        thought.begin(now);
        int z = seed;
        for (int i = 0; i < days; i++) {
            thought.waitAs(now);
            for (int k = 0; k < comers; k++) {
                z = z * 1103515245 + 12345;
                thought.meet((z >>> 8) % CODES);
            }
        }
        return road < 0 ? thought.worth : thought.had[road];
    }

    // ---- in deed

    public int comes(int comer) {
        if (!isComer(comer)) {
            return BAD;
        }
        int road = now.haver(comer);
        if (road < 0) {
            return STATE;
        }
        ledger[LED_COMERS]++;
        if (now.isRunner(comer)) {
            ledger[LED_RUNNERS]++;
        }
        lead(road);
        return road;
    }

    public int send(int road) {
        if (!now.isRoad(road)) {
            return BAD;
        }
        int wait = now.number(road, WAIT);
        ledger[LED_SENT]++;
        lead(road);
        return wait;
    }

    private void lead(int road) {
        ledger[LED_WORTH] += now.number(road, WORTH);
        ledger[LED_LATEST] = road;
        now.settle(road);
    }

    public int led(int what) {
        return what >= 0 && what < LED_NUMBERS ? ledger[what] : VOID;
    }

    public int image() {
        kept.there = true;
        kept.roads = now.roads;
        now.giveWaits(kept.waits);
        System.arraycopy(ledger, 0, kept.ledger, 0, LED_NUMBERS);
        return ledger[LED_COMERS];
    }

    public int back() {
        if (!kept.there) {
            return STATE;
        }
        now.takeWaits(kept.waits, kept.roads);
        System.arraycopy(kept.ledger, 0, ledger, 0, LED_NUMBERS);
        return ledger[LED_COMERS];
    }

    public int undo() {
        return changes.undone(now) ? changes.done : STATE;
    }

    public int redo() {
        return changes.doneAgain(now) ? changes.known - changes.done : STATE;
    }

    // ---- acts, shelves

    public int body(int kind) {
        if (kind < 0 || kind >= Bodies.KINDS) {
            return BAD;
        }
        return bodies.isFull() ? FULL : bodies.add(kind);
    }

    public int act(int body, int act, int x) {
        return bodies.perform(body, act, x);
    }

    public int trace(int i) {
        return bodies.traced(i);
    }

    public int keep(int shelf, int body) {
        Shelf held = shelfAt(shelf);
        if (held == null || body != -1 && !bodies.isBody(body)) {
            return BAD;
        }
        if (body < 0) {
            held.holdNothing();
        } else {
            held.holdBody(body);
        }
        return 1;
    }

    public int row(int shelf, int sort, int n) {
        Shelf held = shelfAt(shelf);
        if (held == null || sort < Shelf.BYTES || sort > Shelf.BOOLEANS || n > MAX_ELEMENTS) {
            return BAD;
        }
        if (n < 0) {
            return BELOW_ZERO;
        }
        held.holdRow(sort, n);
        return 1;
    }

    public int put(int shelf, int i, long v) {
        int refused = placeRefusal(shelf, i);
        Shelf row = shelfAt(shelf);
        if (refused != 0 || row == null) {
            return refused;
        }
        row.write(i, v);
        return 1;
    }

    public long element(int shelf, int i) {
        Shelf row = shelfAt(shelf);
        if (placeRefusal(shelf, i) != 0 || row == null) {
            return Long.MIN_VALUE;
        }
        return row.valueAt(i);
    }

    public int shift(int shelf, int i, int other, int j, int n) {
        int refused = pairRefusal(shelf, other);
        Shelf from = shelfAt(shelf), to = shelfAt(other);
        if (refused != 0 || from == null || to == null) {
            return refused;
        }
        if (!from.hasRoom(i, n) || !to.hasRoom(j, n)) {
            return NO_PLACE;
        }
        System.arraycopy(from.elements, i, to.elements, j, n);
        return n;
    }

    public int taken(int shelf, int k) {
        Shelf held = shelfAt(shelf);
        if (held == null || k < 0 || k >= Bodies.KINDS) {
            return BAD;
        }
        if (held.holdsNothing()) {
            return NOTHING_THERE;
        }
        int kind = held.holdsRow() ? -1 : bodies.kindOf(held.body);
        return Bodies.isUnder(kind, k) ? kind : OTHER_KIND;
    }

    public int count(int what) {
        switch (what) {
            case 0: return now.roads;
            case 1: return tape.length;
            case 2: return changes.done;
            case 3: return bodies.many;
            case 4: return bodies.ran;
            default: return BAD;
        }
    }

    private Shelf shelfAt(int shelf) {
        return shelf >= 0 && shelf < MAX_SHELVES ? shelves[shelf] : null;
    }

    /** 0 if a row of any sort is on the shelf. */
    private int rowRefusal(int shelf) {
        Shelf held = shelfAt(shelf);
        if (held == null) {
            return BAD;
        }
        if (held.holdsNothing()) {
            return NOTHING_THERE;
        }
        return held.holdsRow() ? 0 : OTHER_KIND;
    }

    private int placeRefusal(int shelf, int i) {
        int refused = rowRefusal(shelf);
        Shelf row = shelfAt(shelf);
        if (refused != 0 || row == null) {
            return refused;
        }
        return row.hasRoom(i, 1) ? 0 : NO_PLACE;
    }

    /** 0 if two rows of one sort are on the shelves; what either lacks goes ahead of what kind the other is. */
    private int pairRefusal(int shelf, int other) {
        Shelf from = shelfAt(shelf), to = shelfAt(other);
        if (from == null || to == null) {
            return BAD;
        }
        if (from.holdsNothing() || to.holdsNothing()) {
            return NOTHING_THERE;
        }
        boolean alike = from.holdsRow() && to.holdsRow() && from.sort == to.sort;
        return alike ? 0 : OTHER_KIND;
    }

    /** The roads with their numbers, and how they settle which of them has a comer. */
    private static final class Crossing {
        /** Each number of a road has six places, one a road; behind them stand those of the crossing. */
        private static final int OF_ALL = RUN * MAX_ROADS, NUMBERS = OF_ALL + QUOTA - RUN + 1;

        private final int[] numbers = new int[NUMBERS];
        private int roads;
        private Law law;

        Crossing(Law untold) {
            law = untold;
            numbers[OF_ALL] = 8;
            numbers[OF_ALL + SIT - RUN] = 2;
            numbers[OF_ALL + QUOTA - RUN] = 4;
        }

        boolean isRoad(int road) {
            return road >= 0 && road < roads;
        }

        boolean isFull() {
            return roads >= MAX_ROADS;
        }

        int allRoads() {
            return (1 << roads) - 1;
        }

        int add(int likes, int dust, int worth) {
            if (isFull()) {
                return FULL;
            }
            int road = roads;
            roads++;
            become(road, LIKES, likes);
            become(road, DUST, dust);
            become(road, WORTH, worth);
            become(road, WAIT, 0);
            return road;
        }

        /** Where a number stands; below 0 if there is no such number. */
        private int placeOf(int number, int what) {
            if (what >= RUN) {
                return what <= QUOTA && number == 0 ? OF_ALL + what - RUN : -1;
            }
            return what >= LIKES && number >= 0 && number < roads ? what * MAX_ROADS + number : -1;
        }

        int number(int number, int what) {
            int place = placeOf(number, what);
            return place >= 0 && place < NUMBERS ? numbers[place] : VOID;
        }

        void become(int number, int what, int v) {
            int place = placeOf(number, what);
            if (place >= 0 && place < NUMBERS) {
                numbers[place] = v;
            }
        }

        void copy(Crossing other) {
            System.arraycopy(other.numbers, 0, numbers, 0, NUMBERS);
            roads = other.roads;
            law = other.law;
        }

        void giveWaits(int[] waits) {
            System.arraycopy(numbers, WAIT * MAX_ROADS, waits, 0, Math.min(waits.length, MAX_ROADS));
        }

        void takeWaits(int[] waits, int many) {
            int most = Math.min(Math.min(many, waits.length), MAX_ROADS);
            System.arraycopy(waits, 0, numbers, WAIT * MAX_ROADS, Math.max(most, 0));
        }

        /** Whether a comer goes on by the road straight on, unasked. */
        boolean isRunner(int comer) {
            return comer / 10 >= number(0, RUN) && isRoad(number(0, STRAIGHT));
        }

        int wants(int road, int comer) {
            int likes = number(road, LIKES), waits = number(road, WAIT), dust = number(road, DUST);
            int pace = comer / 10;
            if (!law.isTold()) {
                return likes + waits + dust - pace;
            }
            int much = law.gives(likes, waits, dust, pace, comer % 10, road);
            return Math.max(-999, Math.min(999, much));
        }

        int haver(int comer) {
            return isRunner(comer) ? number(0, STRAIGHT) : wanter(comer, 0);
        }

        /** The road that wants a comer most, of those whose bit is not in without. */
        private int wanter(int comer, int without) {
            int best = NOT, most = 0;
            for (int road = 0; road < roads; road++) {
                if ((without >> road & 1) != 0) {
                    continue;
                }
                int much = wants(road, comer);
                if (best == NOT || much > most) {
                    best = road;
                    most = much;
                }
            }
            return best;
        }

        /** The road that has a comer who has sat k times. */
        int asked(int comer, int k) {
            if (isRunner(comer)) {
                return k == 0 ? number(0, STRAIGHT) : NOT;
            }
            int disliked = 0;
            for (int sittings = 0; sittings < roads; sittings++) {
                int road = wanter(comer, disliked);
                if (sittings == k || road < 0) {
                    return road;
                }
                disliked |= 1 << road;
            }
            return NOT;
        }

        boolean hasAllOf(int road, int pace) {
            for (int load = 0; load < 10; load++) {
                if (haver(10 * pace + load) != road) {
                    return false;
                }
            }
            return true;
        }

        void settle(int road) {
            for (int other = 0; other < roads; other++) {
                int wait = other == road ? 0 : number(other, WAIT) + 1;
                become(other, WAIT, Math.min(wait, HIGHEST[WAIT]));
            }
        }
    }

    /** Comers who come in thought alone: a crossing that goes on from now, and what came of it. */
    private static final class Thought {
        private final Crossing crossing;
        private final int[] had = new int[MAX_ROADS];
        private final int[] first = new int[MAX_ROADS];
        private final int[] longest = new int[MAX_ROADS];
        private int comers, latest, worth;

        Thought(Law untold) {
            crossing = new Crossing(untold);
        }

        void begin(Crossing now) {
            crossing.copy(now);
            Arrays.fill(had, 0);
            Arrays.fill(first, NOT);
            crossing.giveWaits(longest);
            comers = 0;
            latest = NOT;
            worth = 0;
        }

        void waitAs(Crossing now) {
            for (int road = 0; road < crossing.roads; road++) {
                crossing.become(road, WAIT, now.number(road, WAIT));
            }
        }

        int meet(int comer) {
            int road = crossing.haver(comer);
            if (road >= 0 && road < MAX_ROADS) {
                crossing.settle(road);
                worth += crossing.number(road, WORTH);
                had[road]++;
                if (first[road] == NOT) {
                    first[road] = comers;
                }
                noteWaits();
            }
            latest = road;
            comers++;
            return road;
        }

        private void noteWaits() {
            for (int road = 0; road < crossing.roads && road < MAX_ROADS; road++) {
                longest[road] = Math.max(longest[road], crossing.number(road, WAIT));
            }
        }

        int unlikeness() {
            if (crossing.roads == 0) {
                return 0;
            }
            int most = had[0], fewest = had[0];
            for (int road = 1; road < crossing.roads && road < MAX_ROADS; road++) {
                most = Math.max(most, had[road]);
                fewest = Math.min(fewest, had[road]);
            }
            return most - fewest;
        }
    }

    /** A law as steps: numbers and names are laid on a stack, signs take from it; a line ends with its own step. */
    private static final class Law {
        /** 120 bytes make at most 121 steps; five levels wait at most in each of seven brackets. */
        private static final int MAX_STEPS = 128, MAX_LAID = 64, NAMES = 6;
        private static final int NUMBER = '0', NAME = 'n', MINUS = '~', IF = '?', LINE = ';';

        private final int[] signs = new int[MAX_STEPS];
        private final int[] values = new int[MAX_STEPS];
        private final int[] stack = new int[MAX_LAID];
        private final int[] names = new int[NAMES];
        private int steps, top;

        boolean isTold() {
            return steps > 0;
        }

        void clear() {
            steps = 0;
        }

        void add(int sign, int value) {
            if (steps < MAX_STEPS) {
                signs[steps] = sign;
                values[steps] = value;
                steps++;
            }
        }

        int gives(int likes, int waits, int dust, int pace, int load, int road) {
            names[0] = likes;
            names[1] = waits;
            names[2] = dust;
            names[3] = pace;
            names[4] = load;
            names[5] = road;
            top = 0;
            boolean skips = false;
            for (int at = 0; at < steps; at++) {
                int sign = signs[at];
                if (skips) {
                    skips = sign != LINE;
                } else if (sign == LINE) {
                    return take();
                } else if (sign == IF) {
                    skips = take() == 0;
                } else if (sign == NUMBER) {
                    lay(values[at]);
                } else if (sign == NAME) {
                    lay(named(values[at]));
                } else if (sign == '!') {
                    lay(take() == 0 ? 1 : 0);
                } else if (sign == MINUS) {
                    lay(-take());
                } else {
                    int right = take(), left = take();
                    lay(joined(sign, left, right));
                }
            }
            return 0;
        }

        private int named(int name) {
            return name >= 0 && name < NAMES ? names[name] : 0;
        }

        private void lay(int value) {
            if (top >= 0 && top < MAX_LAID) {
                stack[top] = value;
                top++;
            }
        }

        private int take() {
            if (top <= 0 || top > MAX_LAID) {
                return 0;
            }
            top--;
            return stack[top];
        }

        private static int joined(int sign, int left, int right) {
            switch (sign) {
                case '|': return left != 0 || right != 0 ? 1 : 0;
                case '&': return left != 0 && right != 0 ? 1 : 0;
                case '<': return left < right ? 1 : 0;
                case '=': return left == right ? 1 : 0;
                case '>': return left > right ? 1 : 0;
                case '+': return left + right;
                case '-': return left - right;
                case '*': return left * right;
                case '/': return right == 0 ? 0 : left / right;
                case '%': return right == 0 ? 0 : left % right;
                default: return 0;
            }
        }
    }

    /** The tape, and how it is read: each part of a text moves place on, or leaves it at the fault. */
    private static final class Tape {
        private static final int MAX_BYTES = 120, MAX_OPEN = 6, MAX_DIGITS = 4, END = -1;
        private static final int COMPARISONS = 2, OPERANDS = 5;

        private final int[] bytes = new int[MAX_BYTES];
        private int length, place;

        boolean isFull() {
            return length >= MAX_BYTES;
        }

        int add(int letter) {
            if (!isFull()) {
                bytes[length] = letter;
                length++;
            }
            return length;
        }

        /** The fault, or -1; the tape is empty then. */
        int readInto(Law law) {
            law.clear();
            place = 0;
            boolean stands = readLines(law);
            int fault = stands ? -1 : place;
            length = 0;
            return fault;
        }

        private int here() {
            return place >= 0 && place < length ? bytes[place] : END;
        }

        private boolean readLines(Law law) {
            for (int lines = 0; lines < MAX_BYTES; lines++) {
                if (!readLine(law)) {
                    return false;
                }
                if (here() != ';') {
                    return here() == END;
                }
                place++;
            }
            return false;
        }

        private boolean readLine(Law law) {
            if (!readJoined(law, 0, 0)) {
                return false;
            }
            if (here() == '?') {
                place++;
                law.add(Law.IF, 0);
                if (!readJoined(law, 0, 0)) {
                    return false;
                }
            }
            law.add(Law.LINE, 0);
            return true;
        }

        /** E (level 0), A, B, S and P (4); open is how many of ( ! - stand open ahead of it. */
        private boolean readJoined(Law law, int level, int open) {
            if (level >= OPERANDS) {
                return readOperand(law, open);
            }
            if (!readJoined(law, level + 1, open)) {
                return false;
            }
            int most = level == COMPARISONS ? 1 : MAX_BYTES;
            for (int i = 0; i < most && joins(level, here()); i++) {
                int sign = here();
                place++;
                if (!readJoined(law, level + 1, open)) {
                    return false;
                }
                law.add(sign, 0);
            }
            return true;
        }

        private static boolean joins(int level, int sign) {
            switch (level) {
                case 0: return sign == '|';
                case 1: return sign == '&';
                case 2: return sign == '<' || sign == '=' || sign == '>';
                case 3: return sign == '+' || sign == '-';
                case 4: return sign == '*' || sign == '/' || sign == '%';
                default: return false;
            }
        }

        private boolean readOperand(Law law, int open) {
            int sign = here();
            if (isDigit(sign)) {
                readNumber(law);
                return true;
            }
            int name = nameOf(sign);
            if (name >= 0) {
                place++;
                law.add(Law.NAME, name);
                return true;
            }
            boolean opens = sign == '(' || sign == '!' || sign == '-';
            if (!opens || open >= MAX_OPEN) {
                return false;
            }
            place++;
            return sign == '(' ? readBracket(law, open + 1) : readSigned(law, sign, open + 1);
        }

        private boolean readBracket(Law law, int open) {
            if (!readJoined(law, 0, open) || here() != ')') {
                return false;
            }
            place++;
            return true;
        }

        private boolean readSigned(Law law, int sign, int open) {
            if (!readOperand(law, open)) {
                return false;
            }
            law.add(sign == '-' ? Law.MINUS : sign, 0);
            return true;
        }

        private void readNumber(Law law) {
            int value = 0;
            for (int i = 0; i < MAX_DIGITS && isDigit(here()); i++) {
                value = 10 * value + here() - '0';
                place++;
            }
            law.add(Law.NUMBER, value);
        }

        private static boolean isDigit(int sign) {
            return sign >= '0' && sign <= '9';
        }

        private static int nameOf(int sign) {
            switch (sign) {
                case 'l': return 0;
                case 'w': return 1;
                case 'd': return 2;
                case 'p': return 3;
                case 'c': return 4;
                case 'r': return 5;
                default: return -1;
            }
        }
    }

    /** Sets of roads as bits, and which of them win. */
    private static final class Votes {
        private static final int[] ORDERS = {1, 1, 2, 6, 24, 120, 720};

        private static boolean wins(Crossing now, int set) {
            int dust = 0;
            for (int road = 0; road < now.roads; road++) {
                if ((set >> road & 1) != 0) {
                    dust += now.number(road, DUST);
                }
            }
            return dust >= now.number(0, QUOTA);
        }

        /** Whether a set wins, and none of its roads can be spared. */
        private static boolean winsBarely(Crossing now, int set) {
            for (int road = 0; road < now.roads; road++) {
                if ((set >> road & 1) != 0 && wins(now, set & ~(1 << road))) {
                    return false;
                }
            }
            return wins(now, set);
        }

        private static int ordersOf(int many) {
            return many >= 0 && many < ORDERS.length ? ORDERS[many] : 0;
        }

        static long powerOf(Crossing now, int road, int part) {
            int ways = 0, all = ordersOf(now.roads);
            for (int set = 0; set < 1 << now.roads; set++) {
                boolean comes = (set >> road & 1) == 0;
                if (comes && !wins(now, set) && wins(now, set | 1 << road)) {
                    int ahead = Integer.bitCount(set);
                    ways += ordersOf(ahead) * ordersOf(now.roads - 1 - ahead);
                }
            }
            int shared = sharedDivisor(ways, all);
            int whole = part == 0 ? ways : all;
            return shared > 1 ? whole / shared : whole;
        }

        private static int sharedDivisor(int ways, int all) {
            for (int divisor = all; divisor > 1; divisor--) {
                if (ways % divisor == 0 && all % divisor == 0) {
                    return divisor;
                }
            }
            return 1;
        }

        static int winners(Crossing now, int what) {
            int winning = 0, barely = 0, least = NOT, used = 0;
            int all = now.allRoads(), needed = all;
            for (int set = 0; set <= all; set++) {
                if (wins(now, set)) {
                    winning++;
                    needed &= set;
                }
                if (winsBarely(now, set)) {
                    barely++;
                    least = least == NOT ? set : least;
                    used |= set;
                }
            }
            switch (what) {
                case 0: return winning;
                case 1: return barely;
                case 2: return least;
                case 3: return winning == 0 ? 0 : needed;
                default: return all & ~used;
            }
        }
    }

    /** Changes of numbers: those up to done may be undone, those behind done again. */
    private static final class Changes {
        private static final int MOST = 40;

        private final int[] numbers = new int[MOST];
        private final int[] whats = new int[MOST];
        private final int[] olds = new int[MOST];
        private final int[] fresh = new int[MOST];
        private int done, known;

        void note(int number, int what, int old, int now) {
            if (done >= MOST) {
                dropFirst(numbers);
                dropFirst(whats);
                dropFirst(olds);
                dropFirst(fresh);
                done = MOST - 1;
            }
            numbers[done] = number;
            whats[done] = what;
            olds[done] = old;
            fresh[done] = now;
            done++;
            known = done;
        }

        private static void dropFirst(int[] of) {
            System.arraycopy(of, 1, of, 0, MOST - 1);
        }

        boolean undone(Crossing crossing) {
            if (done <= 0) {
                return false;
            }
            done--;
            crossing.become(numbers[done], whats[done], olds[done]);
            return true;
        }

        boolean doneAgain(Crossing crossing) {
            if (done >= known || done >= MOST) {
                return false;
            }
            crossing.become(numbers[done], whats[done], fresh[done]);
            done++;
            return true;
        }
    }

    /** What an image keeps: waits of the roads that were there, and what led() told. */
    private static final class Image {
        private final int[] waits = new int[MAX_ROADS];
        private final int[] ledger = new int[LED_NUMBERS];
        private boolean there;
        private int roads;
    }

    /** The bodies, the ways their kinds hang together, and the trace of the latest act. */
    private static final class Bodies {
        private static final int KINDS = 8, ACTS = 4, WANTS = 0, WAITS = 1, TAKES = 2;
        private static final int MOST = 50, TRACED = 24, MAX_DEPTH = 40;
        private static final int[] ABOVE = {-1, 0, 0, 2, 1, 3, 0, 6};
        /** By kinds: the numbers of the bodies of its four acts; 0 where it has none of its own. */
        private static final int[] OWN = {
            1, 10, 11, 2,
            20, 0, 0, 0,
            0, 30, 0, 0,
            0, 41, 40, 0,
            0, 0, 0, 50,
            0, 0, 60, 61,
            70, 0, 0, 0,
            81, 80, 0, 0};

        private final int[] kinds = new int[MOST];
        private final int[] trace = new int[TRACED];
        private int many, ran;

        boolean isFull() {
            return many >= MOST;
        }

        boolean isBody(int body) {
            return body >= 0 && body < many;
        }

        int kindOf(int body) {
            return isBody(body) ? kinds[body] : -1;
        }

        int add(int kind) {
            if (isFull()) {
                return FULL;
            }
            kinds[many] = kind;
            many++;
            return many - 1;
        }

        int traced(int i) {
            return i >= 0 && i < ran && i < TRACED ? trace[i] : BAD;
        }

        private static int above(int kind) {
            return kind >= 0 && kind < KINDS ? ABOVE[kind] : -1;
        }

        static boolean isUnder(int kind, int top) {
            int under = kind;
            for (int i = 0; i < KINDS && under >= 0; i++) {
                if (under == top) {
                    return true;
                }
                under = above(under);
            }
            return false;
        }

        int perform(int body, int act, int x) {
            ran = 0;
            return isBody(body) && act >= 0 && act < ACTS ? work(body, act, kinds[body], x, 0) : 0;
        }

        /** The kind from here upward that has a body of its own for an act. */
        private static int kindWith(int act, int from) {
            int kind = from;
            for (int i = 0; i < KINDS && kind >= 0 && OWN[kind * ACTS + act] == 0; i++) {
                kind = above(kind);
            }
            return kind;
        }

        private void note(int number) {
            if (ran < TRACED) {
                trace[ran] = number;
            }
            ran++;
        }

        /** Runs the act's body that counts from a kind upward; its own acts begin at the body's kind again. */
        private int work(int body, int act, int from, int x, int depth) {
            int at = kindWith(act, from);
            if (at < 0 || depth > MAX_DEPTH) {
                return 0;
            }
            int number = OWN[at * ACTS + act];
            note(number);
            int own = kindOf(body), up = above(at), next = depth + 1;
            switch (number) {
                case 1: return x + body;
                case 2: return work(body, WAITS, own, x, next) - work(body, TAKES, own, 1, next);
                case 10: return work(body, WANTS, own, x, next) * 2;
                case 11: return x ^ body;
                case 20: return work(body, act, up, x, next) + 3;
                case 30: return -work(body, act, up, x, next);
                case 40: return work(body, act, up, x, next) * 3;
                case 41: return work(body, act, up, x + 1, next);
                case 50: return work(body, act, up, x, next) ^ 5;
                case 60: return work(body, act, up, x, next) - work(body, WANTS, own, 2, next);
                case 61: return work(body, act, up, x, next) + 1;
                case 70: return work(body, act, up, x, next) * 2;
                case 80: return work(body, act, up, x, next) + work(body, TAKES, own, 2, next);
                case 81: return work(body, act, up, x, next) - 1;
                default: return 0;
            }
        }
    }

    /** A shelf, and what it holds: nothing, a body, or a row whose elements stand as longs. */
    private static final class Shelf {
        private static final int NOTHING = 0, BODY = 1, ROW = 2;
        private static final int BYTES = 0, SHORTS = 1, INTS = 2, LONGS = 3, BOOLEANS = 4;

        private final long[] elements = new long[MAX_ELEMENTS];
        private int holds, body, sort, length;

        boolean holdsNothing() {
            return holds == NOTHING;
        }

        boolean holdsRow() {
            return holds == ROW;
        }

        boolean holdsBytes() {
            return holds == ROW && sort == BYTES;
        }

        void holdNothing() {
            holds = NOTHING;
            length = 0;
        }

        void holdBody(int number) {
            holds = BODY;
            body = number;
            length = 0;
        }

        void holdRow(int of, int n) {
            holds = ROW;
            sort = of;
            length = Math.max(0, Math.min(n, MAX_ELEMENTS));
            Arrays.fill(elements, 0L);
        }

        /** Whether n elements stand from i on. */
        boolean hasRoom(int i, int n) {
            return i >= 0 && n >= 0 && i <= length - n;
        }

        long valueAt(int i) {
            return hasRoom(i, 1) ? elements[i] : 0L;
        }

        int small(int i) {
            return (int) valueAt(i);
        }

        void write(int i, long v) {
            if (hasRoom(i, 1)) {
                elements[i] = narrowed(v);
            }
        }

        private long narrowed(long v) {
            switch (sort) {
                case BYTES: return (byte) v;
                case SHORTS: return (short) v;
                case INTS: return (int) v;
                case LONGS: return v;
                default: return v != 0 ? 1 : 0;
            }
        }

        /** How many comers are among the first n elements: the day ends with what is none. */
        int comers(int n) {
            int many = 0;
            while (many < n && hasRoom(many, 1) && isComer(small(many))) {
                many++;
            }
            return many;
        }
    }
}

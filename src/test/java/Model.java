import java.util.ArrayList;
import java.util.Arrays;
import java.util.HashMap;
import java.util.List;
import java.util.Map;

/** A second program with the document's face, that does all by trying everything; slow, and written on its own. */
final class Model {
    static final int BAD = -1, NOT = -2, FULL = -3, STATE = -5, VOID = -2000000000;

    /** The kinds as Java itself has them: a default method, overriding and super. */
    interface Wants {
        List<Integer> trace();
        int n();
        default int wants(int x) { trace().add(1); return x + n(); }
    }

    interface Tells {
        List<Integer> trace();
        int waits(int x);
        int takes(int x);
        default int tells(int x) { trace().add(2); return waits(x) - takes(1); }
    }

    static class Way implements Wants, Tells {
        List<Integer> trace = new ArrayList<>();
        int n;
        public List<Integer> trace() { return trace; }
        public int n() { return n; }
        public int waits(int x) { trace.add(10); return wants(x) * 2; }
        public int takes(int x) { trace.add(11); return x ^ n; }
    }

    static class Dusty extends Way {
        public int wants(int x) { trace.add(20); return super.wants(x) + 3; }
    }

    static class Green extends Way {
        public int waits(int x) { trace.add(30); return -super.waits(x); }
    }

    static class Bank extends Green {
        public int takes(int x) { trace.add(40); return super.takes(x) * 3; }
        public int waits(int x) { trace.add(41); return super.waits(x + 1); }
    }

    static class Lane extends Dusty {
        public int tells(int x) { trace.add(50); return super.tells(x) ^ 5; }
    }

    static class Chapel extends Bank {
        public int takes(int x) { trace.add(60); return super.takes(x) - wants(2); }
        public int tells(int x) { trace.add(61); return super.tells(x) + 1; }
    }

    static class Elm extends Way {
        public int wants(int x) { trace.add(70); return super.wants(x) * 2; }
    }

    static class Pig extends Elm {
        public int waits(int x) { trace.add(80); return super.waits(x) + takes(2); }
        public int wants(int x) { trace.add(81); return super.wants(x) - 1; }
    }

    static final Class<?>[] KINDS = {Way.class, Dusty.class, Green.class, Bank.class, Lane.class,
        Chapel.class, Elm.class, Pig.class};

    static Way make(int kind) {
        Way[] all = {new Way(), new Dusty(), new Green(), new Bank(), new Lane(), new Chapel(), new Elm(), new Pig()};
        return all[kind];
    }

    static final class Row {
        int sort;
        long[] of;
    }

    List<int[]> roads = new ArrayList<>(); // likes, dust, worth, wait
    int[] alone = {8, 0, 2, 4};
    String tape = "", text = null;
    Object[] shelves = new Object[6];
    List<int[]> done = new ArrayList<>(), undone = new ArrayList<>();
    int[] led = {0, 0, 0, 0, NOT};
    int[] imageLed = null;
    List<Integer> imageWaits = new ArrayList<>();
    List<Way> bodies = new ArrayList<>();
    List<Integer> trace = new ArrayList<>();

    // ---- the law

    /** -1, or the fault, by an automaton over the bytes. */
    static int fault(String s) {
        boolean wants = true, conditional = false;
        int digits = 0;
        ArrayList<boolean[]> compared = new ArrayList<>();
        ArrayList<Integer> signs = new ArrayList<>();
        compared.add(new boolean[1]);
        signs.add(0);
        for (int i = 0; i < s.length(); i++) {
            char c = s.charAt(i);
            int top = compared.size() - 1, open = top;
            for (int many : signs) {
                open += many;
            }
            if (wants) {
                if (c >= '0' && c <= '9') {
                    digits = 1;
                    wants = false;
                    signs.set(top, 0);
                } else if ("lwdpcr".indexOf(c) >= 0) {
                    digits = 0;
                    wants = false;
                    signs.set(top, 0);
                } else if ((c == '!' || c == '-') && open < 6) {
                    signs.set(top, signs.get(top) + 1);
                } else if (c == '(' && open < 6) {
                    compared.add(new boolean[1]);
                    signs.add(0);
                } else {
                    return i;
                }
            } else if (c >= '0' && c <= '9' && digits >= 1 && digits < 4) {
                digits++;
            } else if ("+-*/%".indexOf(c) >= 0) {
                wants = true;
            } else if ("<=>".indexOf(c) >= 0 && !compared.get(top)[0]) {
                compared.get(top)[0] = true;
                wants = true;
            } else if (c == '&' || c == '|') {
                compared.get(top)[0] = false;
                wants = true;
            } else if (c == ')' && top > 0) {
                compared.remove(top);
                signs.remove(top);
                signs.set(top - 1, 0);
                digits = 0;
            } else if (c == '?' && top == 0 && !conditional) {
                conditional = true;
                compared.get(0)[0] = false;
                wants = true;
            } else if (c == ';' && top == 0) {
                conditional = false;
                compared.get(0)[0] = false;
                wants = true;
            } else {
                return i;
            }
        }
        return wants || compared.size() > 1 ? s.length() : -1;
    }

    /** The place of the last sign of these outside brackets that joins two, or -1. */
    static int lastJoin(String s, String signs) {
        int depth = 0, found = -1;
        for (int i = 0; i < s.length(); i++) {
            char c = s.charAt(i);
            depth += c == '(' ? 1 : c == ')' ? -1 : 0;
            boolean behindOperand = i > 0 && (Character.isLetterOrDigit(s.charAt(i - 1)) || s.charAt(i - 1) == ')');
            if (depth == 0 && behindOperand && signs.indexOf(c) >= 0) {
                found = i;
            }
        }
        return found;
    }

    static int value(String s, Map<Character, Integer> names) {
        for (String signs : new String[] {"|", "&", "<=>", "+-", "*/%"}) {
            int at = lastJoin(s, signs);
            if (at >= 0) {
                int a = value(s.substring(0, at), names), b = value(s.substring(at + 1), names);
                switch (s.charAt(at)) {
                    case '|': return a != 0 || b != 0 ? 1 : 0;
                    case '&': return a != 0 && b != 0 ? 1 : 0;
                    case '<': return a < b ? 1 : 0;
                    case '=': return a == b ? 1 : 0;
                    case '>': return a > b ? 1 : 0;
                    case '+': return a + b;
                    case '-': return a - b;
                    case '*': return a * b;
                    case '/': return b == 0 ? 0 : (int) ((long) a / b);
                    default: return b == 0 ? 0 : (int) ((long) a % b);
                }
            }
        }
        char c = s.charAt(0);
        if (c == '!') {
            return value(s.substring(1), names) == 0 ? 1 : 0;
        }
        if (c == '-') {
            return -value(s.substring(1), names);
        }
        if (c == '(') {
            return value(s.substring(1, s.length() - 1), names);
        }
        return Character.isDigit(c) ? Integer.parseInt(s) : names.get(c);
    }

    static int lawGives(String text, Map<Character, Integer> names) {
        for (String line : text.split(";")) {
            int at = line.indexOf('?');
            if (at < 0) {
                return value(line, names);
            }
            if (value(line.substring(0, at), names) != 0) {
                return value(line.substring(at + 1), names);
            }
        }
        return 0;
    }

    // ---- thought

    int wants(List<int[]> in, int road, int comer) {
        int[] r = in.get(road);
        if (text == null) {
            return r[0] + r[3] + r[1] - comer / 10;
        }
        Map<Character, Integer> names = new HashMap<>();
        names.put('l', r[0]);
        names.put('w', r[3]);
        names.put('d', r[1]);
        names.put('p', comer / 10);
        names.put('c', comer % 10);
        names.put('r', road);
        return Math.max(-999, Math.min(999, lawGives(text, names)));
    }

    boolean runs(List<int[]> in, int comer) {
        return comer / 10 >= alone[0] && alone[1] < in.size();
    }

    int hasIn(List<int[]> in, int comer) {
        if (in.isEmpty()) {
            return NOT;
        }
        return runs(in, comer) ? alone[1] : order(in, comer).get(0);
    }

    List<Integer> order(List<int[]> in, int comer) {
        List<Integer> all = new ArrayList<>();
        int[] much = new int[in.size()];
        for (int i = 0; i < in.size(); i++) {
            all.add(i);
            much[i] = wants(in, i, comer);
        }
        all.sort((a, b) -> much[a] != much[b] ? much[b] - much[a] : a - b);
        return all;
    }

    static List<int[]> copy(List<int[]> of) {
        List<int[]> to = new ArrayList<>();
        for (int[] r : of) {
            to.add(r.clone());
        }
        return to;
    }

    static List<int[]> behind(List<int[]> in, int road) {
        List<int[]> to = copy(in);
        for (int i = 0; i < to.size(); i++) {
            to.get(i)[3] = i == road ? 0 : Math.min(99, to.get(i)[3] + 1);
        }
        return to;
    }

    boolean isRoad(int road) {
        return road >= 0 && road < roads.size();
    }

    static boolean isComer(int c) {
        return c >= 0 && c <= 99;
    }

    Row row(int shelf) {
        return (Row) shelves[shelf];
    }

    /** 0, or what a call that wants a row of bytes answers. */
    int bytes(int shelf) {
        if (shelf < 0 || shelf > 5) {
            return BAD;
        }
        if (shelves[shelf] == null) {
            return -11;
        }
        return shelves[shelf] instanceof Row && row(shelf).sort == 0 ? 0 : -12;
    }

    List<Integer> comers(int shelf, int n) {
        List<Integer> all = new ArrayList<>();
        for (long v : row(shelf).of) {
            if (v < 0 || v > 99 || all.size() == n) {
                break;
            }
            all.add((int) v);
        }
        return all;
    }

    /** Behind each comer: the roads then; who had them stands in had. */
    List<List<int[]>> steps(List<int[]> from, List<Integer> comers, List<Integer> had) {
        List<List<int[]>> all = new ArrayList<>();
        all.add(from);
        for (int comer : comers) {
            List<int[]> in = all.get(all.size() - 1);
            int road = hasIn(in, comer);
            had.add(road);
            all.add(behind(in, road));
        }
        return all;
    }

    int road(int likes, int worth) {
        if (likes < 0 || likes > 9 || worth < -99 || worth > 99) {
            return BAD;
        }
        if (roads.size() == 6) {
            return FULL;
        }
        roads.add(new int[] {likes, 1, worth, 0});
        return roads.size() - 1;
    }

    int roads(int shelf, int i, int n) {
        if (shelf < 0 || shelf > 5 || n < 1 || n > 6) {
            return BAD;
        }
        if (shelves[shelf] == null) {
            return 0;
        }
        if (bytes(shelf) != 0) {
            return -12;
        }
        long[] of = row(shelf).of;
        int came = 0;
        for (long at = i; i >= 0 && came < n && at + 2 < of.length && roads.size() < 6; at += 3) {
            long l = of[(int) at], d = of[(int) at + 1], w = of[(int) at + 2];
            if (l < 0 || l > 9 || d < 0 || d > 9 || w < -99 || w > 99) {
                break;
            }
            roads.add(new int[] {(int) l, (int) d, (int) w, 0});
            came++;
        }
        return came;
    }

    int of(int number, int what) {
        if (what >= 0 && what <= 3) {
            return isRoad(number) ? roads.get(number)[what] : VOID;
        }
        return what >= 4 && what <= 7 && number == 0 ? alone[what - 4] : VOID;
    }

    void tell(int number, int what, int v) {
        if (what <= 3) {
            roads.get(number)[what] = v;
        } else {
            alone[what - 4] = v;
        }
    }

    int mend(int number, int what, int v) {
        int was = of(number, what);
        if (was == VOID) {
            return VOID;
        }
        String[] ranges = {"0 9", "0 9", "-99 99", "0 99", "0 9", "0 5", "0 9", "1 54"};
        String[] range = ranges[what].split(" ");
        if (v < Integer.parseInt(range[0]) || v > Integer.parseInt(range[1])) {
            return VOID;
        }
        if (v != was) {
            tell(number, what, v);
            done.add(new int[] {number, what, was, v});
            if (done.size() > 40) {
                done.remove(0);
            }
            undone.clear();
        }
        return was;
    }

    int feed(int letter) {
        if (letter < 0 || letter > 255) {
            return BAD;
        }
        if (tape.length() == 120) {
            return FULL;
        }
        tape += (char) letter;
        return tape.length();
    }

    int law() {
        int fault = fault(tape);
        if (fault < 0) {
            text = tape;
        }
        tape = "";
        return fault < 0 ? 1 : -100 - fault;
    }

    int pull(int road, int comer) {
        return isRoad(road) && isComer(comer) ? wants(roads, road, comer) : VOID;
    }

    int has(int comer) {
        return isComer(comer) ? hasIn(roads, comer) : BAD;
    }

    int last(int shelf, int n) {
        int refused = n < 0 || n > 60 ? BAD : bytes(shelf);
        if (refused != 0) {
            return refused;
        }
        List<Integer> had = new ArrayList<>();
        steps(roads, comers(shelf, n), had);
        return had.isEmpty() ? NOT : had.get(had.size() - 1);
    }

    int day(int shelf, int n, int road, int what) {
        if (!isRoad(road) || what < 0 || what > 3 || n < 0 || n > 60 || bytes(shelf) != 0) {
            return !isRoad(road) || what < 0 || what > 3 || n < 0 || n > 60 ? BAD : bytes(shelf);
        }
        List<Integer> had = new ArrayList<>();
        List<List<int[]>> steps = steps(roads, comers(shelf, n), had);
        if (what == 0) {
            return steps.get(steps.size() - 1).get(road)[3];
        }
        if (what == 1) {
            return (int) had.stream().filter(r -> r == road).count();
        }
        if (what == 2) {
            return had.contains(road) ? had.indexOf(road) : NOT;
        }
        return steps.stream().mapToInt(in -> in.get(road)[3]).max().getAsInt();
    }

    int unlike(int shelf, int n) {
        int refused = n < 0 || n > 60 ? BAD : bytes(shelf);
        if (refused != 0 || roads.isEmpty()) {
            return refused;
        }
        int most = -1, fewest = 100;
        for (int i = 0; i < roads.size(); i++) {
            int many = day(shelf, n, i, 1);
            most = Math.max(most, many);
            fewest = Math.min(fewest, many);
        }
        return most - fewest;
    }

    int how(int road, int what) {
        if (!isRoad(road) || what < 0 || what > 1) {
            return BAD;
        }
        List<Integer> codes = new ArrayList<>();
        for (int c = 0; c < 100; c++) {
            if (has(c) == road) {
                codes.add(c);
            }
        }
        return what == 0 ? codes.size() : codes.isEmpty() ? NOT : codes.get(0);
    }

    /** In ahead() all stands still but waits: what goes from waits by a code to other waits is worked out once. */
    private static final class Waits {
        List<int[]> in;
        int[] hads = new int[100];
        Waits[] next = new Waits[6];
    }

    private Waits waits(List<int[]> in) {
        Waits w = new Waits();
        w.in = in;
        for (int c = 0; c < 100; c++) {
            w.hads[c] = hasIn(in, c);
        }
        return w;
    }

    private Waits next(Waits w, int code) {
        int road = w.hads[code];
        if (w.next[road] == null) {
            w.next[road] = waits(behind(w.in, road));
        }
        return w.next[road];
    }

    int[] sent(int rc) {
        Waits now = waits(roads);
        for (int many = 0, all = 1; many <= 3; many++, all *= 100) {
            for (int i = 0; i < all; i++) {
                int[] codes = {i / 10000, i / 100 % 100, i % 100};
                codes = Arrays.copyOfRange(codes, 3 - many, 3);
                Waits w = now;
                for (int code : codes) {
                    w = next(w, code);
                }
                if (w.hads[rc % 100] == rc / 100) {
                    return codes;
                }
            }
        }
        return null;
    }

    int ahead(int rc, int k) {
        if (rc < 0 || !isRoad(rc / 100) || k < -1) {
            return BAD;
        }
        int[] codes = sent(rc);
        if (codes == null || k >= codes.length) {
            return NOT;
        }
        return k == -1 ? codes.length : codes[k];
    }

    int again(int rc) {
        if (rc < 0 || !isRoad(rc / 100)) {
            return BAD;
        }
        List<int[]> in = roads;
        for (int i = 1; i <= 200; i++) {
            int road = hasIn(in, rc % 100);
            if (road == rc / 100) {
                return i;
            }
            in = behind(in, road);
        }
        return NOT;
    }

    int green() {
        int bits = 0;
        for (int i = 0; i < roads.size(); i++) {
            bits |= how(i, 0) == 0 ? 1 << i : 0;
        }
        return bits;
    }

    int second(int comer, int k) {
        if (!isComer(comer) || k < 0) {
            return BAD;
        }
        List<Integer> order = roads.isEmpty() ? new ArrayList<>()
            : runs(roads, comer) ? List.of(alone[1]) : order(roads, comer);
        return k < order.size() ? order.get(k) : NOT;
    }

    int sit(int comer, int what) {
        if (!isComer(comer) || what < 0 || what > 1 || roads.isEmpty()) {
            return VOID;
        }
        int best = Integer.MIN_VALUE, at = 0;
        for (int k = 0; second(comer, k) >= 0; k++) {
            int worth = roads.get(second(comer, k))[2] - k * alone[2];
            if (worth > best) {
                best = worth;
                at = k;
            }
        }
        return what == 0 ? best : at;
    }

    // ---- votes

    boolean wins(int set) {
        int sum = 0;
        for (int i = 0; i < roads.size(); i++) {
            sum += (set & 1 << i) != 0 ? roads.get(i)[1] : 0;
        }
        return sum >= alone[3];
    }

    void orders(List<Integer> ahead, int[] firsts) {
        if (ahead.size() == roads.size()) {
            int set = 0;
            for (int road : ahead) {
                boolean before = wins(set);
                set |= 1 << road;
                if (!before && wins(set)) {
                    firsts[road]++;
                }
            }
            firsts[6]++;
            return;
        }
        for (int i = 0; i < roads.size(); i++) {
            if (!ahead.contains(i)) {
                ahead.add(i);
                orders(ahead, firsts);
                ahead.remove(ahead.size() - 1);
            }
        }
    }

    long power(int road, int part) {
        if (!isRoad(road) || part < 0 || part > 1) {
            return Long.MIN_VALUE;
        }
        int[] firsts = new int[7];
        orders(new ArrayList<>(), firsts);
        int a = firsts[road], b = firsts[6];
        while (b != 0) {
            int rest = a % b;
            a = b;
            b = rest;
        }
        return firsts[part == 0 ? road : 6] / a;
    }

    int winning(int what) {
        List<Integer> win = new ArrayList<>(), barely = new ArrayList<>();
        int all = (1 << roads.size()) - 1, needed = all, used = 0;
        for (int set = 0; set <= all; set++) {
            if (!wins(set)) {
                continue;
            }
            win.add(set);
            needed &= set;
            boolean any = false;
            for (int i = 0; i < 6; i++) {
                any |= (set & 1 << i) != 0 && wins(set ^ 1 << i);
            }
            if (!any) {
                barely.add(set);
                used |= set;
            }
        }
        switch (what) {
            case 0: return win.size();
            case 1: return barely.size();
            case 2: return barely.isEmpty() ? NOT : barely.get(0);
            case 3: return win.isEmpty() ? 0 : needed;
            case 4: return all ^ used;
            default: return BAD;
        }
    }

    List<int[]> with(int road, int what, int v) {
        List<int[]> in = copy(roads);
        in.get(road)[what] = v;
        return in;
    }

    int more(int rc) {
        if (rc < 0 || !isRoad(rc / 100)) {
            return BAD;
        }
        for (int d = 0; d < 10; d++) {
            if (hasIn(with(rc / 100, 1, d), rc % 100) == rc / 100) {
                return d;
            }
        }
        return NOT;
    }

    int whatever(int road, int pace) {
        if (!isRoad(road) || pace < 0 || pace > 9) {
            return BAD;
        }
        for (int d = 0; d < 10; d++) {
            boolean all = true;
            for (int load = 0; load < 10; load++) {
                all &= hasIn(with(road, 1, d), 10 * pace + load) == road;
            }
            if (all) {
                return d;
            }
        }
        return NOT;
    }

    int least() {
        int best = NOT, sum = 1000;
        for (int i = 0; i < roads.size(); i++) {
            int[] r = roads.get(i);
            if (r[0] + r[1] + r[3] < sum) {
                sum = r[0] + r[1] + r[3];
                best = i;
            }
        }
        return best;
    }

    // ---- books

    int wrong(List<int[]> from, int shelf) {
        long[] of = row(shelf).of;
        List<int[]> in = from;
        for (int i = 0; i < of.length; i += 2) {
            if (i + 1 == of.length || of[i] < 0 || of[i] > 99 || of[i + 1] < 0 || of[i + 1] >= in.size()
                || hasIn(in, (int) of[i]) != of[i + 1]) {
                return i / 2;
            }
            in = behind(in, (int) of[i + 1]);
        }
        return NOT;
    }

    int judge(int shelf) {
        return bytes(shelf) != 0 ? bytes(shelf) : wrong(roads, shelf);
    }

    int tried(int shelf, int road, int what, int number, int most) {
        if (shelf < 0 || shelf > 5 || !isRoad(road) || what < 0 || what > 1) {
            return BAD;
        }
        if (bytes(shelf) != 0) {
            return bytes(shelf);
        }
        List<Integer> so = new ArrayList<>();
        for (int v = 0; v <= most; v++) {
            if (wrong(with(road, number, v), shelf) == NOT) {
                so.add(v);
            }
        }
        if (what == 0) {
            return so.size();
        }
        return so.isEmpty() ? NOT : so.get(number == 0 ? 0 : so.size() - 1);
    }

    int liking(int shelf, int road, int what) {
        return tried(shelf, road, what, 0, 9);
    }

    int waited(int shelf, int road, int what) {
        return tried(shelf, road, what, 3, 20);
    }

    int fair(int shelf, int what) {
        if (bytes(shelf) != 0 || what < 0 || what > 1 || roads.isEmpty()) {
            return VOID;
        }
        List<Integer> had = new ArrayList<>(), comers = comers(shelf, 60);
        steps(roads, comers, had);
        int sum = 0;
        for (int i = 0; i < comers.size(); i++) {
            sum += roads.get(what == 0 ? i % roads.size() : had.get(i))[2];
        }
        return sum;
    }

    int drawn(int seed, int nm, int road) {
        int n = nm / 100, m = nm % 100;
        if (nm < 0 || n < 1 || n > 30 || m < 1 || m > 60 || road < -1 || road >= roads.size()) {
            return VOID;
        }
        int z = seed, many = 0, sum = 0;
        for (int i = 0; i < n; i++) {
            List<Integer> comers = new ArrayList<>(), had = new ArrayList<>();
            for (int k = 0; k < m; k++) {
                z = z * 1103515245 + 12345;
                comers.add((z >>> 8) % 100);
            }
            if (roads.isEmpty()) {
                continue;
            }
            steps(roads, comers, had);
            for (int r : had) {
                many += r == road ? 1 : 0;
                sum += roads.get(r)[2];
            }
        }
        return road == -1 ? sum : many;
    }

    // ---- in deed

    int comes(int comer) {
        if (!isComer(comer)) {
            return BAD;
        }
        if (roads.isEmpty()) {
            return STATE;
        }
        int road = has(comer);
        led[0]++;
        led[1] += runs(roads, comer) ? 1 : 0;
        led[3] += roads.get(road)[2];
        led[4] = road;
        roads = behind(roads, road);
        return road;
    }

    int send(int road) {
        if (!isRoad(road)) {
            return BAD;
        }
        int wait = roads.get(road)[3];
        led[2]++;
        led[3] += roads.get(road)[2];
        led[4] = road;
        roads = behind(roads, road);
        return wait;
    }

    int led(int what) {
        return what >= 0 && what <= 4 ? led[what] : VOID;
    }

    int image() {
        imageLed = led.clone();
        imageWaits.clear();
        for (int[] r : roads) {
            imageWaits.add(r[3]);
        }
        return led[0];
    }

    int back() {
        if (imageLed == null) {
            return STATE;
        }
        led = imageLed.clone();
        for (int i = 0; i < imageWaits.size(); i++) {
            roads.get(i)[3] = imageWaits.get(i);
        }
        return led[0];
    }

    int undo() {
        if (done.isEmpty()) {
            return STATE;
        }
        int[] change = done.remove(done.size() - 1);
        undone.add(change);
        tell(change[0], change[1], change[2]);
        return done.size();
    }

    int redo() {
        if (undone.isEmpty()) {
            return STATE;
        }
        int[] change = undone.remove(undone.size() - 1);
        done.add(change);
        tell(change[0], change[1], change[3]);
        return undone.size();
    }

    // ---- acts, shelves

    int body(int kind) {
        if (kind < 0 || kind > 7) {
            return BAD;
        }
        if (bodies.size() == 50) {
            return FULL;
        }
        Way way = make(kind);
        way.n = bodies.size();
        bodies.add(way);
        return way.n;
    }

    int act(int body, int act, int x) {
        trace = new ArrayList<>();
        if (body < 0 || body >= bodies.size() || act < 0 || act > 3) {
            return 0;
        }
        Way way = bodies.get(body);
        way.trace = trace;
        return act == 0 ? way.wants(x) : act == 1 ? way.waits(x) : act == 2 ? way.takes(x) : way.tells(x);
    }

    int trace(int i) {
        return i >= 0 && i < Math.min(24, trace.size()) ? trace.get(i) : BAD;
    }

    int keep(int shelf, int body) {
        if (shelf < 0 || shelf > 5 || body < -1 || body >= bodies.size()) {
            return BAD;
        }
        shelves[shelf] = body == -1 ? null : bodies.get(body);
        return 1;
    }

    int row(int shelf, int sort, int n) {
        if (shelf < 0 || shelf > 5 || sort < 0 || sort > 4 || n > 60) {
            return BAD;
        }
        if (n < 0) {
            return -14;
        }
        Row row = new Row();
        row.sort = sort;
        row.of = new long[n];
        shelves[shelf] = row;
        return 1;
    }

    int place(int shelf, int i) {
        if (shelf < 0 || shelf > 5) {
            return BAD;
        }
        if (shelves[shelf] == null) {
            return -11;
        }
        if (!(shelves[shelf] instanceof Row)) {
            return -12;
        }
        return i < 0 || i >= row(shelf).of.length ? -13 : 0;
    }

    int put(int shelf, int i, long v) {
        int refused = place(shelf, i);
        if (refused != 0) {
            return refused;
        }
        long[] kept = {(byte) v, (short) v, (int) v, v, v == 0 ? 0 : 1};
        row(shelf).of[i] = kept[row(shelf).sort];
        return 1;
    }

    long element(int shelf, int i) {
        return place(shelf, i) != 0 ? Long.MIN_VALUE : row(shelf).of[i];
    }

    int shift(int shelf, int i, int other, int j, int n) {
        if (shelf < 0 || shelf > 5 || other < 0 || other > 5) {
            return BAD;
        }
        if (shelves[shelf] == null || shelves[other] == null) {
            return -11;
        }
        if (!(shelves[shelf] instanceof Row) || !(shelves[other] instanceof Row) || row(shelf).sort != row(other).sort) {
            return -12;
        }
        long[] from = row(shelf).of, to = row(other).of;
        if (i < 0 || j < 0 || n < 0 || (long) i + n > from.length || (long) j + n > to.length) {
            return -13;
        }
        long[] all = Arrays.copyOfRange(from, i, i + n);
        for (int k = 0; k < n; k++) {
            to[j + k] = all[k];
        }
        return n;
    }

    int taken(int shelf, int k) {
        if (shelf < 0 || shelf > 5 || k < 0 || k > 7) {
            return BAD;
        }
        if (shelves[shelf] == null) {
            return -11;
        }
        if (!KINDS[k].isInstance(shelves[shelf])) {
            return -12;
        }
        return Arrays.asList(KINDS).indexOf(shelves[shelf].getClass());
    }

    int count(int what) {
        int[] all = {roads.size(), tape.length(), done.size(), bodies.size(), trace.size()};
        return what >= 0 && what <= 4 ? all[what] : BAD;
    }
}

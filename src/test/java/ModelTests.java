/** Runs of drawn calls, each answered by the program and by the model; the draws are the same every time. */
public final class ModelTests {
    /** An object is used for at most 512 calls; one draw makes up to 200 of them. */
    private static final int RUNS = 900, CALLS = 512 - 200;
    private static final int[] EDGES = {Integer.MIN_VALUE, -101, -100, -2, -1, 0, 1, 2, 5, 6, 7, 9, 10, 54, 60, 61,
        99, 100, 127, 128, 200, 512, 599, 600, 3060, 3100, Integer.MAX_VALUE - 1, Integer.MAX_VALUE};
    private static final String[] LAWS = {"l", "w", "d", "p", "c", "r", "l+w+d-p", "l*2+w*w-p*d+c%(r+2)",
        "c=r?9;p=r?5;w", "(r-c%6)*(r-c%6)*-1", "c<5?l-r;w*2", "p>4&c<3?r;d|l?w;0-r", "w>3?99;r=c%3?7;d",
        "p%6=r?w+5;c%6=r?w+4;0", "!(c%6=r)?0-w;l", "0", "w*9999*9999*9999", "-w", "c%6=r", "w>5|r=p/2"};
    private static final String SIGNS = "lwdpcr0123456789!-(()))||&&<=>+-*/%?;lwdpcrlwdpcr x\u00ff";

    private static long state = 20261118L;
    private static CrossroadsChoose x;
    private static Model model;
    private static int calls = 0, most = 0;

    public static void main(String[] args) {
        for (int run = 0; run < RUNS; run++) {
            Due.group("run " + run);
            x = new CrossroadsChoose();
            model = new Model();
            calls = 0;
            while (calls < CALLS) {
                call(run);
            }
            most = Math.max(most, calls);
        }
        Due.group("calls of one object");
        Due.due("512 at most", most <= 512 ? 1 : 0, 1);
        Due.end("ModelTests");
    }

    private static int draw(int n) {
        state = state * 6364136223846793005L + 1442695040888963407L;
        return (int) ((state >>> 33) % n);
    }

    /** Mostly least .. most, now and then an edge of any kind. */
    private static int some(int least, int most) {
        return draw(25) == 0 ? EDGES[draw(EDGES.length)] : least + draw(most - least + 1);
    }

    private static void due(String name, long got, long want, long... with) {
        calls++;
        Due.due(name + java.util.Arrays.toString(with), got, want);
    }

    private static void call(int run) {
        int group = draw(12);
        if (group < 2) {
            roads(run);
        } else if (group < 5) {
            thoughts();
        } else if (group < 6) {
            votes();
        } else if (group < 7) {
            books();
        } else if (group < 9) {
            deeds();
        } else {
            shelves();
        }
    }

    private static void roads(int run) {
        switch (draw(7)) {
            case 0: {
                int likes = some(0, 9), worth = some(-99, 99);
                // some runs stay with few roads
                if (model.roads.size() <= run % 7) {
                    due("road", x.road(likes, worth), model.road(likes, worth), likes, worth);
                }
                break;
            }
            case 1: {
                int shelf = some(0, 5), i = some(-1, 20), n = some(1, 6);
                if (model.roads.size() <= run % 7) {
                    due("roads", x.roads(shelf, i, n), model.roads(shelf, i, n), shelf, i, n);
                }
                break;
            }
            case 2: case 3: {
                int what = some(0, 7), number = what > 3 ? some(0, 0) : some(0, 5);
                int most = what == 7 ? 20 : what == 3 ? 12 : what == 2 ? 99 : 9, v = some(0, most);
                due("mend", x.mend(number, what, v), model.mend(number, what, v), number, what, v);
                break;
            }
            case 4: {
                int what = some(0, 7), number = what > 3 ? some(0, 0) : some(0, 5);
                due("of", x.of(number, what), model.of(number, what), number, what);
                break;
            }
            case 5: {
                int letter = some(0, 255);
                if (draw(4) == 0) {
                    due("feed", x.feed(letter), model.feed(letter), letter);
                }
                break;
            }
            default: law();
        }
    }

    private static void law() {
        StringBuilder text = new StringBuilder();
        if (draw(3) > 0) {
            text.append(LAWS[draw(LAWS.length)]);
            due("law", x.law(), model.law());
        } else if (draw(2) == 0) {
            expression(text, 6);
        }
        for (int i = draw(3) == 0 ? draw(20) : 0; i > 0; i--) {
            int at = draw(text.length() + 1);
            if (draw(2) == 0 && at < text.length()) {
                text.setCharAt(at, SIGNS.charAt(draw(SIGNS.length())));
            } else {
                text.insert(at, SIGNS.charAt(draw(SIGNS.length())));
            }
        }
        for (int i = 0; i < text.length(); i++) {
            due("feed", x.feed(text.charAt(i)), model.feed(text.charAt(i)), text.charAt(i));
        }
        due("law of " + model.tape, x.law(), model.law());
    }

    private static void expression(StringBuilder text, int depth) {
        int sort = depth <= 0 ? draw(2) : draw(6);
        if (sort == 0) {
            text.append("lwdpcr".charAt(draw(6)));
        } else if (sort == 1) {
            text.append(draw(draw(2) == 0 ? 10 : 10000));
        } else if (sort == 2) {
            text.append("!-".charAt(draw(2)));
            expression(text, depth - 1);
        } else if (sort == 3) {
            text.append('(');
            expression(text, depth - 1);
            text.append(')');
        } else {
            expression(text, depth - 2);
            text.append("|&<=>+-*/%+-*/%?;".charAt(draw(17)));
            expression(text, depth - 2);
        }
    }

    private static void thoughts() {
        int shelf = some(0, 2), n = some(0, 60), road = some(0, Math.max(0, model.roads.size() - 1)), comer = some(0, 99);
        int what = some(0, 1), rc = draw(15) == 0 ? EDGES[draw(EDGES.length)] : 100 * road + comer, k = some(-1, 3);
        switch (draw(12)) {
            case 0: due("pull", x.pull(road, comer), model.pull(road, comer), road, comer); break;
            case 1: due("has", x.has(comer), model.has(comer), comer); break;
            case 2: due("last", x.last(shelf, n), model.last(shelf, n), shelf, n); break;
            case 3: {
                int w = some(0, 3);
                due("day", x.day(shelf, n, road, w), model.day(shelf, n, road, w), shelf, n, road, w);
                break;
            }
            case 4: due("unlike", x.unlike(shelf, n), model.unlike(shelf, n), shelf, n); break;
            case 5: due("how", x.how(road, what), model.how(road, what), road, what); break;
            case 6: {
                if (draw(60) == 0) {
                    for (int each = 0; each < model.roads.size(); each++) {
                        int pair = 100 * each + draw(100);
                        due("ahead", x.ahead(pair, -1), model.ahead(pair, -1), pair);
                        due("ahead", x.ahead(pair, k), model.ahead(pair, k), pair, k);
                    }
                }
                // the model tries a million ways where there is none: seldom asked
                if (draw(10) == 0) {
                    due("ahead", x.ahead(rc, k), model.ahead(rc, k), rc, k);
                }
                break;
            }
            case 7: due("again", x.again(rc), model.again(rc), rc); break;
            case 8: due("green", x.green(), model.green()); break;
            case 9: case 10: due("second", x.second(comer, k), model.second(comer, k), comer, k); break;
            default: due("sit", x.sit(comer, what), model.sit(comer, what), comer, what);
        }
    }

    private static void votes() {
        int road = some(0, Math.max(0, model.roads.size() - 1)), what = some(0, 4), pace = some(0, 9);
        int part = some(0, 1), rc = draw(15) == 0 ? EDGES[draw(EDGES.length)] : 100 * road + some(0, 99);
        switch (draw(6)) {
            case 0: due("power", x.power(road, part), model.power(road, part), road, part); break;
            case 1: case 2: due("winning", x.winning(what), model.winning(what), what); break;
            case 3: due("more", x.more(rc), model.more(rc), rc); break;
            case 4: due("whatever", x.whatever(road, pace), model.whatever(road, pace), road, pace); break;
            default: due("least", x.least(), model.least());
        }
    }

    private static void books() {
        int shelf = some(0, 2), road = some(0, Math.max(0, model.roads.size() - 1)), what = some(0, 1);
        switch (draw(6)) {
            case 0: book(shelf); break;
            case 1: due("judge", x.judge(shelf), model.judge(shelf), shelf); break;
            case 2: due("liking", x.liking(shelf, road, what), model.liking(shelf, road, what), shelf, road, what); break;
            case 3: due("waited", x.waited(shelf, road, what), model.waited(shelf, road, what), shelf, road, what); break;
            case 4: due("fair", x.fair(shelf, what), model.fair(shelf, what), shelf, what); break;
            default: {
                int seed = some(-1000, 1000), nm = draw(4) == 0 ? some(-100, 3100) : 100 * (1 + draw(3)) + some(0, 61);
                int r = some(-1, 5);
                due("drawn", x.drawn(seed, nm, r), model.drawn(seed, nm, r), seed, nm, r);
            }
        }
    }

    /** A book that is so as the model stands, but for one two now and then. */
    private static void book(int shelf) {
        int twos = draw(12), n = 2 * twos + (draw(6) == 0 ? 1 : 0);
        due("row", x.row(shelf, 0, n), model.row(shelf, 0, n), shelf, n);
        java.util.List<int[]> in = model.roads;
        for (int i = 0; i < twos; i++) {
            int comer = draw(100), road = in.isEmpty() ? 0 : model.hasIn(in, comer);
            if (draw(30) == 0) {
                road = some(0, 5);
            }
            due("put", x.put(shelf, 2 * i, comer), model.put(shelf, 2 * i, comer), shelf, 2 * i, comer);
            due("put", x.put(shelf, 2 * i + 1, road), model.put(shelf, 2 * i + 1, road), shelf, 2 * i + 1, road);
            in = Model.behind(in, road);
        }
        for (int road = 0; road < model.roads.size(); road++) {
            for (int what = 0; what < 2; what++) {
                due("liking", x.liking(shelf, road, what), model.liking(shelf, road, what), shelf, road, what);
                due("waited", x.waited(shelf, road, what), model.waited(shelf, road, what), shelf, road, what);
            }
        }
    }

    private static void deeds() {
        int comer = some(0, 99), road = some(0, Math.max(0, model.roads.size() - 1)), what = some(0, 4);
        switch (draw(9)) {
            case 0: case 1: due("comes", x.comes(comer), model.comes(comer), comer); break;
            case 2: due("send", x.send(road), model.send(road), road); break;
            case 3: case 4: due("led", x.led(what), model.led(what), what); break;
            case 5: due("image", x.image(), model.image()); break;
            case 6: due("back", x.back(), model.back()); break;
            case 7: due("undo", x.undo(), model.undo()); break;
            default: due("redo", x.redo(), model.redo());
        }
    }

    private static void shelves() {
        int shelf = some(0, 5), other = some(0, 5), i = some(0, 30), j = some(0, 30), n = some(0, 30);
        switch (draw(14)) {
            case 0: due("body", x.body(n % 8), model.body(n % 8), n % 8); break;
            case 1: case 2: {
                int body = some(0, Math.max(0, model.bodies.size() - 1)), act = some(0, 3), v = some(-50, 50);
                due("act", x.act(body, act, v), model.act(body, act, v), body, act, v);
                for (int k = -1; k < 12; k++) {
                    due("trace", x.trace(k), model.trace(k), k);
                }
                break;
            }
            case 3: due("trace", x.trace(i), model.trace(i), i); break;
            case 4: {
                int body = some(-1, Math.max(0, model.bodies.size() - 1));
                int on = draw(2) + 4;
                due("keep", x.keep(on, body), model.keep(on, body), on, body);
                break;
            }
            case 5: {
                int sort = shelf <= 2 ? 0 : some(0, 4), size = some(-1, 60);
                due("row", x.row(shelf, sort, size), model.row(shelf, sort, size), shelf, sort, size);
                break;
            }
            case 6: case 7: case 8: day(draw(3), draw(12) + 1); break;
            case 9: {
                long v = (long) draw(1 << 30) * (draw(1 << 30) - (1 << 29)) * (draw(2) + 1);
                due("put", x.put(shelf, i, v), model.put(shelf, i, v), shelf, i, v);
                break;
            }
            case 10: due("element", x.element(shelf, i), model.element(shelf, i), shelf, i); break;
            case 11: due("shift", x.shift(shelf, i, other, j, n), model.shift(shelf, i, other, j, n), shelf, i, other, j, n); break;
            case 12: {
                int k = some(0, 7);
                due("taken", x.taken(shelf, k), model.taken(shelf, k), shelf, k);
                break;
            }
            default: due("count", x.count(shelf), model.count(shelf), shelf);
        }
    }

    private static void day(int shelf, int n) {
        for (int i = 0; i < n; i++) {
            int at = some(0, 30), v = draw(3) == 0 ? some(0, 9) : some(0, 99);
            due("put", x.put(shelf, at, v), model.put(shelf, at, v), shelf, at, v);
        }
    }
}

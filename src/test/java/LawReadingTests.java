/**
 * THE LAW's grammar read in all ways at once, with no way chosen ahead: where such a reading comes to, a TEXT goes on
 * up to there, so the farthest such place is the FAULT of what is no TEXT. All short texts, and drawn long ones.
 */
public final class LawReadingTests {
    private static final int MOST_CALLS = 512, MOST_BYTES = 120, MOST_OPEN = 6, OPERANDS = 5;
    private static final String[] JOINS = {"|", "&", "<=>", "+-", "*/%"};
    private static final String ALL_SIGNS = "lwdpcr0123456789(((!-)))|&<=>+-*/%?;x";

    private static CrossroadsChoose x = new CrossroadsChoose();
    private static int calls = 0;
    private static long state = 20261119L;

    /** Where a reading of a part from a place on may end; kept, for the same part is asked after again and again. */
    private final boolean[][][][] known;
    private final String text;
    private int farthest = 0;

    private LawReadingTests(String text) {
        this.text = text;
        known = new boolean[OPERANDS + 1][text.length() + 1][MOST_OPEN + 1][];
    }

    public static void main(String[] args) {
        Due.says("FAULT: all texts of up to 4 of the signs that matter");
        each("", "l7(!-)|&<+*?; ", 4);
        Due.says("FAULT: all texts of up to 6 of a few signs");
        each("", "1(!)<?;", 6);
        Due.says("FAULT: numbers of any digits");
        each("", "70+", 8);
        Due.says("At most 6 of ( ! - ahead of an O are open at once: all ways to open and close");
        each("((((", "(!)l", 6);
        each("-!(!", "(-)r*", 5);
        Due.says("FAULT: drawn texts, up to 120 bytes long");
        for (int i = 0; i < 20000; i++) {
            ask(drawn());
        }
        Due.end("LawReadingTests");
    }

    private static void each(String ahead, String signs, int more) {
        ask(ahead);
        for (int i = 0; i < signs.length() && more > 0; i++) {
            each(ahead + signs.charAt(i), signs, more - 1);
        }
    }

    private static void ask(String text) {
        if (calls + text.length() + 1 > MOST_CALLS) {
            x = new CrossroadsChoose();
            calls = 0;
        }
        calls += text.length() + 1;
        LawReadingTests reading = new LawReadingTests(text);
        boolean stands = reading.isText();
        Due.due("law of " + text, Due.tell(x, text), stands ? 1 : -100 - reading.farthest);
    }

    private static int draw(int n) {
        state = state * 6364136223846793005L + 1442695040888963407L;
        return (int) ((state >>> 33) % n);
    }

    /** A text that mostly stands, with a sign put out of place in two of three. */
    private static String drawn() {
        StringBuilder text = new StringBuilder();
        int lines = 1 + draw(3);
        for (int i = 0; i < lines; i++) {
            text.append(i > 0 ? ";" : "");
            joined(text, 5);
            if (draw(2) == 0) {
                text.append('?');
                joined(text, 5);
            }
        }
        text.setLength(Math.min(text.length(), MOST_BYTES));
        for (int i = draw(3); i > 0; i--) {
            text.setCharAt(draw(text.length()), ALL_SIGNS.charAt(draw(ALL_SIGNS.length())));
        }
        return text.toString();
    }

    private static void joined(StringBuilder text, int depth) {
        operand(text, depth);
        for (int i = draw(3); i > 0; i--) {
            text.append("|&<=>+-*/%".charAt(draw(10)));
            operand(text, depth - 1);
        }
    }

    private static void operand(StringBuilder text, int depth) {
        int sort = depth <= 0 ? draw(2) : draw(5);
        if (sort == 0) {
            text.append("lwdpcr".charAt(draw(6)));
        } else if (sort == 1) {
            text.append(draw(10000));
        } else if (sort == 2) {
            text.append("!-".charAt(draw(2)));
            operand(text, depth - 1);
        } else {
            text.append('(');
            joined(text, depth - 1);
            text.append(')');
        }
    }

    // ---- the grammar, in all ways

    private void reach(boolean[] ends, int place) {
        ends[place] = true;
        farthest = Math.max(farthest, place);
    }

    private boolean isAt(int place, String signs) {
        return place < text.length() && signs.indexOf(text.charAt(place)) >= 0;
    }

    /** TEXT = LINE { ; LINE }. LINE = E, or E ? E. */
    private boolean isText() {
        boolean[] begun = new boolean[text.length() + 2];
        begun[0] = true;
        boolean stands = false;
        for (int from = 0; from <= text.length(); from++) {
            if (!begun[from]) {
                continue;
            }
            boolean[] ends = ends(0, from, 0).clone();
            for (int at = from; at <= text.length(); at++) {
                if (ends(0, from, 0)[at] && isAt(at, "?")) {
                    farthest = Math.max(farthest, at + 1);
                    add(ends, ends(0, at + 1, 0));
                }
            }
            for (int at = from; at <= text.length(); at++) {
                if (ends[at] && isAt(at, ";")) {
                    reach(begun, at + 1);
                }
            }
            stands |= ends[text.length()];
        }
        return stands;
    }

    private static void add(boolean[] to, boolean[] more) {
        for (int i = 0; i < more.length; i++) {
            to[i] |= more[i];
        }
    }

    /** E (level 0), A, B, S, P (4) and O (5). */
    private boolean[] ends(int level, int from, int open) {
        if (known[level][from][open] == null) {
            boolean[] ends = new boolean[text.length() + 1];
            if (level == OPERANDS) {
                operands(ends, from, open);
            } else {
                joins(ends, level, from, open);
            }
            known[level][from][open] = ends;
        }
        return known[level][from][open];
    }

    /** Parts of the next level with signs between: as many as may be, of < = > one alone. */
    private void joins(boolean[] ends, int level, int from, int open) {
        boolean[] latest = ends(level + 1, from, open);
        add(ends, latest);
        for (int many = 1; many <= (level == 2 ? 1 : text.length()) && any(latest); many++) {
            boolean[] next = new boolean[text.length() + 1];
            for (int at = from; at < text.length(); at++) {
                if (latest[at] && isAt(at, JOINS[level])) {
                    farthest = Math.max(farthest, at + 1);
                    add(next, ends(level + 1, at + 1, open));
                }
            }
            add(ends, next);
            latest = next;
        }
    }

    private static boolean any(boolean[] of) {
        for (boolean one : of) {
            if (one) {
                return true;
            }
        }
        return false;
    }

    private void operands(boolean[] ends, int from, int open) {
        for (int at = from; at < from + 4 && isAt(at, "0123456789"); at++) {
            reach(ends, at + 1);
        }
        if (isAt(from, "lwdpcr")) {
            reach(ends, from + 1);
        }
        if (open == MOST_OPEN) {
            return;
        }
        if (isAt(from, "!-")) {
            farthest = Math.max(farthest, from + 1);
            add(ends, ends(OPERANDS, from + 1, open + 1));
        }
        if (isAt(from, "(")) {
            farthest = Math.max(farthest, from + 1);
            boolean[] in = ends(0, from + 1, open + 1);
            for (int at = from; at < text.length(); at++) {
                if (in[at] && isAt(at, ")")) {
                    reach(ends, at + 1);
                }
            }
        }
    }
}

/** The edges of THE LAW (Terms 1, promise 7): each sentence that names one, by a test of its own. */
public final class LawEdgeTests extends Edges {
    public static void main(String[] args) {
        tape();
        linesAndLevels();
        operands();
        everyByte();
        openOnes();
        length();
        values();
        wraps();
        conditions();
        bounds();
        names();
        Due.end("LawEdgeTests");
    }

    private static void stands(String... texts) {
        for (String text : texts) {
            due("law " + text, tell(roads(5), text), 1);
        }
    }

    /** The text has this FAULT, and the law told ahead of it goes on. */
    private static void fault(String text, int place) {
        CrossroadsChoose x = roads(5);
        tell(x, "77");
        due("law " + text, tell(x, text), -100 - place);
        due("the law ahead of " + text, x.pull(0, 0), 77);
    }

    /** The law's worth for road 1 and comer 27: l 5, w 40, d 3, p 2, c 7, r 1. */
    private static void worth(String text, int want) {
        CrossroadsChoose x = roads(0, 5);
        x.mend(1, 1, 3);
        x.mend(1, 3, 40);
        due("law " + text, tell(x, text), 1);
        due("pull by " + text, x.pull(1, 27), want);
    }

    private static void tape() {
        says("Promise 7: THE TAPE becomes THE LAW: 1");
        CrossroadsChoose x = roads(5);
        x.feed('4');
        x.feed('2');
        due("pull ahead of law()", x.pull(0, 0), 6);
        due("law()", x.law(), 1);
        due("pull behind law()", x.pull(0, 0), 42);
        says("Promise 7: THE TAPE is empty then");
        due("count(1)", x.count(1), 0);
        due("feed", x.feed('x'), 1);
        says("Promise 7: -100 less its FAULT; THE TAPE is empty then");
        due("law()", x.law(), -100);
        due("count(1)", x.count(1), 0);
        due("the law stands", x.pull(0, 0), 42);
        x.feed('4');
        x.feed('x');
        due("law()", x.law(), -101);
        due("the law stands", x.pull(0, 0), 42);
        says("Promise 7: an empty TAPE is no TEXT");
        due("law()", x.law(), -100);
        due("the law stands", x.pull(0, 0), 42);
        says("Promise 7: another law takes the place of one told");
        due("law", tell(x, "7"), 1);
        due("pull", x.pull(0, 0), 7);
        due("a fault", tell(x, "1+1;8+("), -107);
        due("pull", x.pull(0, 0), 7);
        due("law", tell(x, "9"), 1);
        due("pull", x.pull(0, 0), 9);
        says("Without a text: l, w and d together, less p");
        x = roads(4);
        x.mend(0, 1, 9);
        x.mend(0, 3, 99);
        due("pull(0, 9)", x.pull(0, 9), 112);
        due("pull(0, 90)", x.pull(0, 90), 103);
        due("a fault", tell(x, "l+"), -102);
        due("still without", x.pull(0, 99), 103);
        x = roads(0);
        x.mend(0, 1, 0);
        due("below 0", x.pull(0, 99), -9);
    }

    private static void linesAndLevels() {
        says("TEXT: LINES, one or more, parted by ;");
        stands("1", "1;2", "1;2;3", "0?1;0?2;0?3");
        fault("", 0);
        fault(";", 0);
        fault(";1", 0);
        fault("1;", 2);
        fault("1;;2", 2);
        fault("1;2;", 4);
        says("LINE: E, or E ? E");
        stands("1?2", "1?2;3?4", "1;3?4", "1?2;3");
        fault("?", 0);
        fault("?1", 0);
        fault("1?", 2);
        fault("1?;2", 2);
        fault("1??2", 2);
        fault("1?2?3", 3);
        fault("0;1?2?3", 5);
        says("LINE: each E of the two is whole");
        stands("1|2?3|4", "1&2|3<4?5+6*7|8&9", "1?2|3&4;5|6?7|8");
        worth("0|1?0|5", 1);
        worth("1?0|0&1", 0);
        fault("1?2||3", 4);
        says("E = A { | A }");
        stands("1|2", "1|2|3|4");
        fault("|1", 0);
        fault("1|", 2);
        fault("1||2", 2);
        says("A = B { & B }");
        stands("1&2", "1&2&3&4", "1&2|3&4");
        fault("&1", 0);
        fault("1&", 2);
        fault("1&&2", 2);
        fault("1&|2", 2);
        says("B = S, or S < S, S = S, S > S (one of them)");
        stands("1<2", "1=2", "1>2", "1<2&3<4", "1<2|3=4", "1<2?3>4", "1<2;3>4", "(1<2)<3", "1<(2<3)");
        fault("1<2<3", 3);
        fault("1=2=3", 3);
        fault("1>2>3", 3);
        fault("1<2>3", 3);
        fault("1=2&3=4=5", 7);
        fault("(1<2<3)", 4);
        fault("<1", 0);
        fault("=1", 0);
        fault(">1", 0);
        fault("1<", 2);
        fault("1<=2", 2);
        fault("1>=2", 2);
        fault("1==2", 2);
        says("S = P { + P, - P }");
        stands("1+2-3+4", "1+-2", "1--2", "1-!2");
        fault("+1", 0);
        fault("1+", 2);
        fault("1-", 2);
        fault("1++2", 2);
        fault("1-+2", 2);
        says("P = O { * O, / O, % O }");
        stands("1*2/3%4", "1*-2", "1/!2", "1%(2)");
        fault("*1", 0);
        fault("/1", 0);
        fault("%1", 0);
        fault("1*", 2);
        fault("1**2", 2);
        fault("1/%2", 2);
    }

    private static void operands() {
        says("O = a number (1 to 4 digits)");
        stands("0", "12", "123", "1234", "9999", "0000", "1+1234*5678");
        fault("12345", 4);
        fault("00000", 4);
        fault("1+12345", 6);
        fault("(12345)", 5);
        says("O = ! O, - O, ( E )");
        stands("!1", "-1", "!!1", "--1", "!-1", "-!1", "(1)", "((1))", "(!1)", "!(1)", "(1|2&3<4+5*6)", "-(1)*-(2)");
        fault("!", 1);
        fault("-", 1);
        fault("(", 1);
        fault("()", 1);
        fault(")", 0);
        fault("(1", 2);
        fault("1)", 1);
        fault("(1))", 3);
        fault("((1)", 4);
        fault("!)", 1);
        fault("(1?2)", 2);
        fault("(1;2)", 2);
        fault("!+1", 1);
        says("an O stands alone: no O behind it but by a sign");
        fault("ll", 1);
        fault("l1", 1);
        fault("1l", 1);
        fault("1(2)", 1);
        fault("(1)2", 3);
        fault("(1)(2)", 3);
        fault("1!2", 1);
        fault("l!", 1);
        says("No blanks");
        fault(" 1", 0);
        fault("1 ", 1);
        fault("1 +2", 1);
        fault("1+ 2", 2);
        fault("1;\n2", 2);
        fault("1\t", 1);
        says("FAULT: the length, if it ends too early");
        fault("(l+w)*", 6);
        fault("l?w;d?", 6);
        fault("((l", 3);
        fault("l<-", 3);
    }

    private static boolean isIn(String signs, int letter) {
        return signs.indexOf(letter) >= 0;
    }

    private static void everyByte() {
        says("FAULT: the first byte with which no TEXT goes on: each byte at the start");
        for (int b = 0; b < 256; b++) {
            boolean ends = isIn("0123456789lwdpcr", b);
            due("law of byte " + b, tell(roads(5), "" + (char) b), ends ? 1 : isIn("(!-", b) ? -101 : -100);
        }
        says("FAULT: each byte behind an O");
        for (int b = 0; b < 256; b++) {
            due("law of l and byte " + b, tell(roads(5), "l" + (char) b), isIn("|&<=>+-*/%?;", b) ? -102 : -101);
        }
        says("FAULT: each byte behind a number");
        for (int b = 0; b < 256; b++) {
            int want = isIn("0123456789", b) ? 1 : isIn("|&<=>+-*/%?;", b) ? -102 : -101;
            due("law of 1 and byte " + b, tell(roads(5), "1" + (char) b), want);
        }
        says("FAULT: each byte behind an E in brackets");
        for (int b = 0; b < 256; b++) {
            int want = b == ')' ? 1 : isIn("|&<=>+-*/%", b) ? -103 : -102;
            due("law of (l and byte " + b, tell(roads(5), "(l" + (char) b), want);
        }
        says("FAULT: each byte behind a sign");
        for (char sign : "|&<=>+-*/%?;".toCharArray()) {
            for (int b = 0; b < 256; b++) {
                int want = isIn("0123456789lwdpcr", b) ? 1 : isIn("(!-", b) ? -103 : -102;
                due("law of l" + sign + " and byte " + b, tell(roads(5), "l" + sign + (char) b), want);
            }
        }
    }

    private static void openOnes() {
        says("At most 6 of ( are open at once");
        stands("((((((l))))))");
        fault("(((((((l)))))))", 6);
        says("At most 6 of ! are open at once");
        stands("!!!!!!l");
        fault("!!!!!!!l", 6);
        says("At most 6 of - ahead of an O are open at once");
        stands("------l", "1-------l");
        fault("-------l", 6);
        fault("1--------l", 8);
        says("At most 6 of ( ! - together are open at once");
        stands("(!-(!-l))", "!(-(!(l)))", "-(!(-(l)))");
        fault("(!-(!-(l)))", 6);
        fault("(!-(!-!l))", 6);
        fault("(!-(!--l))", 6);
        fault("((((((!l))))))", 6);
        fault("((((((-l))))))", 6);
        fault("!!!!!!(l)", 6);
        says("what is closed is open no more");
        stands("((((((l))))))+((((((l))))))", "!!!!!!l|!!!!!!l", "------l*------l", "(((((l)+(l)))))*!!!!!!l");
        stands("((((((l))))))?((((((l))))))", "((((((l))))));((((((l))))))", "!(((((l)))))-(!(!(!l)))");
        fault("((((((l))))))+(((((((l)))))))", 20);
        fault("0?1;(((((((l)))))))", 10);
        fault("1?(((((((l)))))))", 8);
        fault("1?!!!!!!!l", 8);
        fault("(((((((l)))))))?1", 6);
        fault("(((((!l)))))*!!!!!!!l", 19);
        stands("(((((l)*!(l)))))");
        fault("((((((l)*!(l))))))", 10);
        says("a - between two is none of them");
        stands("((((((l-l-l))))))", "!!!!!!l-l");
        says("the signs of an O are closed behind it");
        stands("(((((!l-!l)))))", "(((((-l*-l*-l)))))");
    }

    private static void length() {
        says("THE LAW: at most 120 bytes: one of 120 stands");
        StringBuilder text = new StringBuilder("10");
        while (text.length() < 120) {
            text.append("+1");
        }
        worth(text.toString(), 69);
        says("THE LAW of 120 bytes: a FAULT at the last byte, and one that ends too early");
        fault(text.substring(0, 119) + "+", 119);
        fault(text.substring(0, 118) + "+-", 120);
        says("THE LAW of 120 bytes: all its LINES");
        text = new StringBuilder();
        while (text.length() < 116) {
            text.append("0?1;");
        }
        worth(text + "1?57", 57);
        says("THE LAW of 120 bytes: LINES of one byte");
        text = new StringBuilder("8");
        while (text.length() < 119) {
            text.append(";9");
        }
        worth(text.toString(), 8);
        says("THE LAW of 120 bytes: names alone");
        text = new StringBuilder("c");
        while (text.length() < 119) {
            text.append("*r");
        }
        worth(text.toString(), 7);
    }

    private static void values() {
        says("| & < = > ! give 1, 0");
        worth("5|0", 1);
        worth("0|5", 1);
        worth("5|5", 1);
        worth("0|0", 0);
        worth("5&6", 1);
        worth("5&0", 0);
        worth("0&5", 0);
        worth("-1&-1", 1);
        worth("0|-1", 1);
        worth("5<6", 1);
        worth("5<5", 0);
        worth("6<5", 0);
        worth("5=5", 1);
        worth("5=6", 0);
        worth("6>5", 1);
        worth("5>5", 0);
        worth("5>6", 0);
        worth("-6<-5", 1);
        worth("!0", 1);
        worth("!5", 0);
        worth("!-1", 0);
        worth("!!5", 1);
        says("/ and % toward 0");
        worth("7/2", 3);
        worth("-7/2", -3);
        worth("7/-2", -3);
        worth("-7/-2", 3);
        worth("7%3", 1);
        worth("-7%3", -1);
        worth("7%-3", 1);
        worth("-7%-3", -1);
        says("/ and % by 0 give 0");
        worth("7/0", 0);
        worth("7%0", 0);
        worth("7/(l-5)+1", 1);
        worth("7%(l-5)+1", 1);
        worth("0/0", 0);
        says("all is worked out: what gives 0 by 0 does no harm");
        worth("1|1/0", 1);
        worth("0&1%0", 0);
        says("signs of one level from left to right, a level below ahead of the one above");
        worth("9-3-2", 4);
        worth("9-3+2", 8);
        worth("100/10/5", 2);
        worth("100/10*5", 50);
        worth("17%10*2", 14);
        worth("2+3*4", 14);
        worth("2*3+4", 10);
        worth("1+1=2", 1);
        worth("3=1+1", 0);
        worth("5>4&1", 1);
        worth("1|0&0", 1);
        worth("0&0|1", 1);
        worth("(1|0)&0", 0);
        worth("!0+1", 2);
        worth("-2*3+10", 4);
        worth("-(2+3)", -5);
        worth("!(1=2)", 1);
        says("the deepest brackets keep what stands ahead of them");
        String ahead = "0|1&0<0+1*(";
        worth(ahead.repeat(6) + "2" + "))))))", 1);
        worth(ahead.repeat(6) + "0" + "))))))", 0);
        worth(ahead.repeat(6) + "0|1&0<0+1*9" + "))))))", 1);
        says("a number of 1 to 4 digits, ahead of which 0 stand too");
        worth("0007", 7);
        worth("9999/11", 909);
        worth("1234/10", 123);
    }

    private static void wraps() {
        String most = "(2048*1024*1024-1)", least = "(2048*1024*1024)";
        says("Ints that wrap: *");
        worth(least + "<0", 1);
        worth("9999*9999*9999%1000", (int) (9999L * 9999 * 9999) % 1000);
        worth("2048*2048*1024", 0);
        says("Ints that wrap: +");
        worth(most + "+1<0", 1);
        worth(most + "+1=" + least, 1);
        says("Ints that wrap: -");
        worth(least + "-1>0", 1);
        worth(least + "-1=" + most, 1);
        says("Ints that wrap: the - ahead of an O");
        worth("-" + least + "=" + least, 1);
        says("Ints that wrap: the least one by -1");
        worth(least + "/-1=" + least, 1);
        worth(least + "%-1", 0);
        says("< and > of the farthest ints");
        worth(least + "<" + most, 1);
        worth(least + ">" + most, 0);
    }

    private static void conditions() {
        says("The first LINE without a first E counts");
        worth("3;4", 3);
        worth("0;4", 0);
        worth("0?3;4;5", 4);
        worth("0?3;4;1?5", 4);
        says("The first LINE whose first E is not 0 counts");
        worth("1?3;4", 3);
        worth("-1?3;4", 3);
        worth("0?3;2?4;1?5", 4);
        worth("1?0;4", 0);
        worth("l=4?1;w=40?2;3", 2);
        says("none counts: 0");
        worth("0?3", 0);
        worth("0?3;l-5?4", 0);
        worth("1=2?9;r-1?9;c<7?9", 0);
    }

    private static void bounds() {
        says("held within -999 .. 999");
        worth("998+1", 999);
        worth("999+1", 999);
        worth("-999", -999);
        worth("-1000", -999);
        worth("-998-1", -999);
        worth("9999", 999);
        worth("2048*1024*1024", -999);
        worth("2048*1024*1024-1", 999);
        says("what is held is what is WANTED: of like ones the least");
        due("both 999", by("r*600+500", 3).has(0), 1);
        due("both -999", by("-1000*(r+1)", 3).has(0), 0);
        due("1 is held, 2 is not", by("r=1?-5000;-998-(r=0)", 3).has(0), 2);
    }

    private static void names() {
        says("NAMES: l LIKES, w WAIT, d DUST, p PACE, c LOAD, r the ROAD");
        worth("l", 5);
        worth("w", 40);
        worth("d", 3);
        worth("p", 2);
        worth("c", 7);
        worth("r", 1);
        says("NAMES at their least and their most");
        CrossroadsChoose x = by("w*9+l+d", 6);
        due("all 0 but DUST 1", x.pull(5, 0), 1);
        x.mend(5, 0, 9);
        x.mend(5, 1, 9);
        x.mend(5, 3, 99);
        due("all at their most", x.pull(5, 0), 909);
        tell(x, "100*r+10*p+c");
        due("ROAD 5, comer 99", x.pull(5, 99), 599);
        due("ROAD 0, comer 0", x.pull(0, 0), 0);
        says("NAMES are of the ROAD that is asked, as it stands");
        tell(x, "w");
        due("wait of 5", x.pull(5, 0), 99);
        due("wait of 4", x.pull(4, 0), 0);
        x.send(5);
        due("wait of 5 behind a deed", x.pull(5, 0), 0);
        due("wait of 4 behind a deed", x.pull(4, 0), 1);
    }
}

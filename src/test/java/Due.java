/** What the tests have in common: they count answers that are not due, and end with 1 if there was one. */
final class Due {
    private static int asked = 0, wrong = 0, sentences = 0, askedAhead = 0;
    private static String group = "";

    private Due() {
    }

    static void group(String name) {
        group = name;
    }

    /** A sentence of the document, whose test follows; one that asks nothing is wrong. */
    static void says(String sentence) {
        endSentence();
        group = sentence;
        sentences++;
        askedAhead = asked;
    }

    private static void endSentence() {
        if (sentences > 0 && asked == askedAhead) {
            wrong++;
            System.out.println(group + ": has no test");
        }
    }

    static void due(String call, long got, long want) {
        asked++;
        if (got != want) {
            wrong++;
            System.out.println(group + ": " + call + " answered " + got + ", due is " + want);
        }
    }

    static void end(String name) {
        endSentence();
        String of = sentences > 0 ? " of " + sentences + " sentences" : "";
        System.out.println(name + ": " + asked + " asked" + of + ", " + wrong + " wrong");
        if (wrong != 0 || asked == 0) {
            System.exit(1);
        }
    }

    static int tell(CrossroadsChoose x, String text) {
        for (int i = 0; i < text.length(); i++) {
            x.feed(text.charAt(i));
        }
        return x.law();
    }

    static void row(CrossroadsChoose x, int shelf, int... bytes) {
        x.row(shelf, 0, bytes.length);
        for (int i = 0; i < bytes.length; i++) {
            x.put(shelf, i, bytes[i]);
        }
    }
}

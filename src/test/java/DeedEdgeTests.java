/** The edges of promises 29 to 35 (in deed): each sentence that names one, by a test of its own. */
public final class DeedEdgeTests extends Edges {
    public static void main(String[] args) {
        comes();
        send();
        led();
        ledWorth();
        image();
        back();
        backOfMany();
        undoAndRedo();
        undoneWaits();
        doneAgain();
        fortyChanges();
        fortyDoneAgain();
        noChanges();
        Due.end("DeedEdgeTests");
    }

    private static void all(CrossroadsChoose x, int comers, int runners, int sent, int worth, int latest) {
        int[] want = {comers, runners, sent, worth, latest};
        for (int what = 0; what < 5; what++) {
            due("led(" + what + ")", x.led(what), want[what]);
        }
    }

    private static void comes() {
        says("Promise 29: a COMER is a code 0 .. 99, else BAD");
        CrossroadsChoose x = roads(5, 4);
        for (int comer : new int[] {-1, 100, MIN, MAX}) {
            due("comes(" + comer + ")", x.comes(comer), BAD);
        }
        all(x, 0, 0, 0, 0, NOT);
        due("comes(0)", x.comes(0), 0);
        due("comes(99)", x.comes(99), 0);
        says("Promise 29: STATE: no ROADS; BAD ahead of it");
        x = roads();
        due("comes(0)", x.comes(0), STATE);
        due("comes(99)", x.comes(99), STATE);
        due("comes(100)", x.comes(100), BAD);
        due("comes(-1)", x.comes(-1), BAD);
        all(x, 0, 0, 0, 0, NOT);
        says("Promise 29: which ROAD has him; its WAIT 0, all others one more, 99 at most");
        x = roads(5, 4, 0);
        x.mend(1, 3, 7);
        x.mend(2, 3, 99);
        x.mend(2, 1, 0);
        tell(x, "l+d+w*(r=1)");
        due("comes(0)", x.comes(0), 1);
        due("of(0, 3)", x.of(0, 3), 1);
        due("of(1, 3)", x.of(1, 3), 0);
        due("of(2, 3)", x.of(2, 3), 99);
        says("a COMER comes: nothing else of the ROADS changes");
        for (int what = 0; what < 3; what++) {
            due("of(1, " + what + ")", x.of(1, what), new int[] {4, 1, 0}[what]);
        }
    }

    private static void send() {
        says("Promise 30: no such ROAD: BAD");
        CrossroadsChoose x = roads(5, 4);
        for (int road : new int[] {-1, 2, 6, MIN, MAX}) {
            due("send(" + road + ")", x.send(road), BAD);
        }
        due("without ROADS", roads().send(0), BAD);
        all(x, 0, 0, 0, 0, NOT);
        says("Promise 30: its WAIT till then: 0 and 99");
        due("send(1)", x.send(1), 0);
        x.mend(1, 3, 99);
        due("send(1)", x.send(1), 99);
        due("send(1)", x.send(1), 0);
        says("one is SENT by a ROAD that is told, whatever others WANT");
        tell(x, "r=0?999;-999");
        due("send(1)", x.send(1), 0);
        due("led(4)", x.led(4), 1);
        says("SENT: WAIT 0, all others one more (99 at most)");
        x.mend(0, 3, 98);
        x.mend(1, 3, 5);
        due("send(1)", x.send(1), 5);
        due("of(1, 3)", x.of(1, 3), 0);
        due("of(0, 3)", x.of(0, 3), 99);
        x.send(1);
        due("of(0, 3)", x.of(0, 3), 99);
        says("SENT: he is no comer, and no runner");
        due("led(0)", x.led(0), 0);
        due("led(1)", x.led(1), 0);
        due("led(2)", x.led(2), 6);
    }

    private static void led() {
        says("LED: comers, runners, sent ones, WORTH together, the latest ROAD (NOT): none at first");
        CrossroadsChoose x = roads(5, 4, 0);
        all(x, 0, 0, 0, 0, NOT);
        says("LED: a runner is a COMER of PACE RUN or more");
        x.comes(79);
        all(x, 1, 0, 0, 0, 0);
        x.comes(80);
        all(x, 2, 1, 0, 0, 0);
        x.comes(99);
        all(x, 3, 2, 0, 0, 0);
        says("LED: who runs without a ROAD STRAIGHT is no runner");
        x.mend(0, 5, 3);
        tell(x, "r=2");
        x.comes(99);
        all(x, 4, 2, 0, 0, 2);
        says("LED: the latest ROAD, of comers and of sent ones");
        x.send(1);
        all(x, 4, 2, 1, 0, 1);
        x.comes(0);
        all(x, 5, 2, 1, 0, 2);
        says("Promise 31: what 0 .. 4, else VOID");
        for (int what : new int[] {-1, 5, MIN, MAX}) {
            due("led(" + what + ")", x.led(what), VOID);
        }
        says("LED: thoughts are none");
        x.row(0, 0, 9);
        x.last(0, 9);
        x.fair(0, 1);
        x.drawn(1, 101, -1);
        x.again(0);
        all(x, 5, 2, 1, 0, 2);
    }

    private static void ledWorth() {
        says("LED: WORTH together: of comers and of sent ones");
        CrossroadsChoose x = roads(5, 0);
        x.mend(0, 2, 10);
        x.mend(1, 2, -99);
        x.comes(0);
        due("led(3)", x.led(3), 10);
        x.send(1);
        due("led(3)", x.led(3), -89);
        x.comes(80);
        due("led(3)", x.led(3), -79);
        says("WORTH in LED as it was then");
        x.mend(0, 2, 99);
        x.mend(1, 2, 0);
        due("led(3)", x.led(3), -79);
        x.undo();
        due("led(3)", x.led(3), -79);
        x.send(0);
        due("led(3)", x.led(3), 20);
    }

    private static void image() {
        says("Promise 32: AN IMAGE is kept: comers");
        CrossroadsChoose x = new CrossroadsChoose();
        due("without ROADS", x.image(), 0);
        x.road(5, 1);
        x.send(0);
        due("sent ones are none", x.image(), 0);
        x.comes(0);
        x.comes(80);
        due("image()", x.image(), 2);
        says("Promise 33: STATE: there is none");
        x = roads(5);
        due("back()", x.back(), STATE);
        x.comes(0);
        due("back()", x.back(), STATE);
        due("led(0)", x.led(0), 1);
        says("Promise 33: it is laid back: comers");
        x.image();
        x.comes(0);
        x.comes(0);
        due("back()", x.back(), 1);
        due("led(0)", x.led(0), 1);
        says("Promise 33: an image of no comers");
        x = new CrossroadsChoose();
        x.image();
        x.road(5, 9);
        x.comes(85);
        x.send(0);
        due("back()", x.back(), 0);
        all(x, 0, 0, 0, 0, NOT);
    }

    private static void back() {
        says("AN IMAGE keeps WAITS");
        CrossroadsChoose x = roads(5, 4);
        x.mend(0, 3, 99);
        x.mend(1, 3, 50);
        x.image();
        x.send(0);
        x.mend(1, 3, 2);
        x.back();
        due("of(0, 3)", x.of(0, 3), 99);
        due("of(1, 3)", x.of(1, 3), 50);
        says("AN IMAGE keeps what LED tells");
        x.mend(1, 2, 7);
        x.comes(80);
        x.send(1);
        x.image();
        x.comes(80);
        x.comes(0);
        x.send(0);
        x.back();
        all(x, 1, 1, 1, 7, 1);
        says("AN IMAGE keeps WAITS and LED alone");
        x.mend(0, 0, 9);
        x.mend(0, 1, 8);
        x.mend(0, 2, -7);
        x.mend(0, 4, 6);
        x.feed('1');
        x.road(3, 3);
        int changes = x.count(2);
        x.back();
        int[] stay = {9, 8, -7};
        for (int what = 0; what < 3; what++) {
            due("of(0, " + what + ")", x.of(0, what), stay[what]);
        }
        due("of(0, 4)", x.of(0, 4), 6);
        due("bytes on THE TAPE", x.count(1), 1);
        due("ROADS", x.count(0), 3);
        due("changes that may be UNDONE", x.count(2), changes);
        says("ROADS that came since: WAIT as it is");
        x.mend(2, 3, 77);
        x.back();
        due("of(2, 3)", x.of(2, 3), 77);
        due("of(0, 3)", x.of(0, 3), 1);
        says("ROADS that came since: WAIT as it is: where none were there");
        CrossroadsChoose none = new CrossroadsChoose();
        none.image();
        none.road(1, 1);
        none.road(1, 1);
        none.send(1);
        due("back()", none.back(), 0);
        due("of(0, 3)", none.of(0, 3), 1);
        due("of(1, 3)", none.of(1, 3), 0);
        says("AN IMAGE keeps WAITS and LED alone: the law stays as it is");
        x.law();
        tell(x, "42");
        x.back();
        due("pull(0, 0)", x.pull(0, 0), 42);
    }

    private static void backOfMany() {
        says("AN IMAGE of six ROADS");
        CrossroadsChoose x = roads(1, 2, 3, 4, 5, 6);
        for (int road = 0; road < 6; road++) {
            x.mend(road, 3, 10 * road + 5);
        }
        x.image();
        for (int i = 0; i < 20; i++) {
            x.comes(i);
        }
        x.back();
        for (int road = 0; road < 6; road++) {
            due("of(" + road + ", 3)", x.of(road, 3), 10 * road + 5);
        }
        says("an image stays where it is laid back; another takes its place");
        x.comes(0);
        due("back()", x.back(), 0);
        due("of(5, 3)", x.of(5, 3), 55);
        x.comes(0);
        due("image()", x.image(), 1);
        x.comes(0);
        due("back()", x.back(), 1);
        due("of(5, 3)", x.of(5, 3), 0);
    }

    private static void undoAndRedo() {
        says("Promise 34: STATE: none");
        CrossroadsChoose x = roads(5, 4);
        due("undo()", x.undo(), STATE);
        says("Promise 35: STATE: none");
        due("redo()", x.redo(), STATE);
        x.mend(0, 0, 1);
        due("nothing was UNDONE", x.redo(), STATE);
        says("CHANGES (all numbers of mend()) can be UNDONE, the latest first: how many may still be");
        int[] was = {1, 1, 0, 0, 8, 0, 2, 4}, fresh = {6, 7, -8, 9, 1, 2, 3, 54};
        for (int what = 1; what < 8; what++) {
            x.mend(0, what, fresh[what]);
        }
        x.mend(0, 0, fresh[0]);
        due("count(2)", x.count(2), 9);
        due("undo()", x.undo(), 8);
        due("of(0, 0)", x.of(0, 0), 1);
        for (int what = 7; what >= 1; what--) {
            due("of(0, " + what + ")", x.of(0, what), fresh[what]);
            due("undo()", x.undo(), what);
            due("of(0, " + what + ")", x.of(0, what), was[what]);
        }
        due("the first", x.undo(), 0);
        due("of(0, 0)", x.of(0, 0), 5);
        due("no more", x.undo(), STATE);
        says("Promise 45: count(2): changes that may be UNDONE");
        due("count(2)", x.count(2), 0);
        says("DONE AGAIN, the latest UNDONE first: how many may still be");
        due("redo()", x.redo(), 8);
        due("of(0, 0)", x.of(0, 0), 1);
        due("count(2)", x.count(2), 1);
        for (int what = 1; what < 8; what++) {
            due("redo()", x.redo(), 8 - what);
            due("of(0, " + what + ")", x.of(0, what), fresh[what]);
        }
        due("the latest", x.redo(), 0);
        due("of(0, 0)", x.of(0, 0), fresh[0]);
        due("no more", x.redo(), STATE);
        due("count(2)", x.count(2), 9);
    }

    private static void undoneWaits() {
        says("A WAIT that is UNDONE is as ahead of its CHANGE, whatever deeds came since");
        CrossroadsChoose x = roads(5, 4);
        x.mend(1, 3, 40);
        x.send(0);
        x.send(0);
        due("of(1, 3)", x.of(1, 3), 42);
        due("undo()", x.undo(), 0);
        due("of(1, 3)", x.of(1, 3), 0);
        says("A WAIT that is DONE AGAIN is as its CHANGE told it");
        x.send(1);
        x.send(0);
        due("redo()", x.redo(), 0);
        due("of(1, 3)", x.of(1, 3), 40);
        says("deeds are no CHANGES (WAIT by them, too), and end not what may be DONE AGAIN");
        x.undo();
        x.comes(0);
        x.send(1);
        x.image();
        x.back();
        due("count(2)", x.count(2), 0);
        due("undo()", x.undo(), STATE);
        due("redo()", x.redo(), 0);
        says("a number that another ROAD has is another CHANGE");
        x = roads(5, 4);
        x.mend(0, 2, 1);
        x.mend(1, 2, 2);
        x.undo();
        due("of(1, 2)", x.of(1, 2), 0);
        due("of(0, 2)", x.of(0, 2), 1);
    }

    private static void doneAgain() {
        says("DONE AGAIN (as long as no other came behind)");
        CrossroadsChoose x = roads(5, 4);
        x.mend(0, 0, 1);
        x.mend(0, 0, 2);
        x.undo();
        x.mend(1, 0, 9);
        due("redo()", x.redo(), STATE);
        due("count(2)", x.count(2), 2);
        due("undo()", x.undo(), 1);
        due("of(1, 0)", x.of(1, 0), 4);
        due("undo()", x.undo(), 0);
        due("of(0, 0)", x.of(0, 0), 5);
        says("DONE AGAIN: one of two, then another comes");
        x = roads(5);
        x.mend(0, 0, 1);
        x.mend(0, 0, 2);
        x.undo();
        x.undo();
        due("redo()", x.redo(), 1);
        x.mend(0, 0, 7);
        due("redo()", x.redo(), STATE);
        due("undo()", x.undo(), 1);
        due("of(0, 0)", x.of(0, 0), 1);
        due("redo()", x.redo(), 0);
        due("of(0, 0)", x.of(0, 0), 7);
        says("telling the same number is none: it is not counted");
        x = roads(5);
        int[] first = {5, 1, 0, 0, 8, 0, 2, 4};
        for (int what = 0; what < 8; what++) {
            due("mend(0, " + what + ", ..)", x.mend(0, what, first[what]), first[what]);
        }
        due("count(2)", x.count(2), 0);
        due("undo()", x.undo(), STATE);
        says("telling the same number is none: it ends not what may be DONE AGAIN");
        x.mend(0, 0, 6);
        x.undo();
        x.mend(0, 0, 5);
        x.mend(0, 7, 4);
        due("redo()", x.redo(), 0);
        due("of(0, 0)", x.of(0, 0), 6);
        says("what mend() refuses is none");
        x.mend(0, 0, 10);
        x.mend(1, 0, 1);
        x.mend(1, 4, 1);
        due("count(2)", x.count(2), 1);
        says("what mend() refuses ends not what may be DONE AGAIN");
        x.undo();
        x.mend(0, 0, 10);
        due("redo()", x.redo(), 0);
    }

    private static void fortyChanges() {
        says("CHANGES: 40 at most are kept: all of 40");
        CrossroadsChoose x = roads(0);
        for (int i = 1; i <= 40; i++) {
            x.mend(0, 2, i);
            due("count(2)", x.count(2), i);
        }
        for (int i = 39; i >= 0; i--) {
            due("undo()", x.undo(), i);
        }
        due("of(0, 2)", x.of(0, 2), 0);
        due("no more", x.undo(), STATE);
        says("CHANGES: 40 at most are kept: of 41 the first is gone");
        x = roads(0);
        for (int i = 1; i <= 41; i++) {
            x.mend(0, 2, i);
        }
        due("count(2)", x.count(2), 40);
        for (int i = 39; i >= 0; i--) {
            due("undo()", x.undo(), i);
            due("of(0, 2)", x.of(0, 2), i + 1);
        }
        due("no more", x.undo(), STATE);
        says("CHANGES of unlike numbers, when the first are gone");
        x = roads(0, 0);
        x.mend(1, 0, 9);
        x.mend(0, 7, 50);
        for (int i = 1; i <= 39; i++) {
            x.mend(0, 2, i);
        }
        for (int i = 1; i <= 40; i++) {
            x.undo();
        }
        due("of(0, 2)", x.of(0, 2), 0);
        due("of(0, 7)", x.of(0, 7), 4);
        due("of(1, 0)", x.of(1, 0), 9);
        due("no more", x.undo(), STATE);
    }

    private static void fortyDoneAgain() {
        says("CHANGES: 40 DONE AGAIN");
        CrossroadsChoose x = roads(0);
        for (int i = 1; i <= 45; i++) {
            x.mend(0, 2, i);
        }
        for (int i = 0; i < 40; i++) {
            x.undo();
        }
        for (int i = 39; i >= 0; i--) {
            due("redo()", x.redo(), i);
            due("of(0, 2)", x.of(0, 2), 45 - i);
        }
        due("no more", x.redo(), STATE);
        due("count(2)", x.count(2), 40);
        says("CHANGES: another, where 40 are kept and one was UNDONE");
        x.undo();
        x.mend(0, 2, 90);
        due("count(2)", x.count(2), 40);
        due("redo()", x.redo(), STATE);
        x.mend(0, 2, 91);
        due("count(2)", x.count(2), 40);
        due("undo()", x.undo(), 39);
        due("of(0, 2)", x.of(0, 2), 90);
        due("redo()", x.redo(), 0);
        due("of(0, 2)", x.of(0, 2), 91);
    }

    private static void noChanges() {
        says("CHANGES are numbers of mend(): ROADS that come, laws, images, bodies and rows are none");
        CrossroadsChoose x = roads(5);
        x.mend(0, 0, 6);
        x.undo();
        x.road(3, 3);
        x.row(0, 0, 3);
        x.roads(0, 0, 1);
        tell(x, "1");
        x.image();
        x.back();
        x.body(0);
        x.put(0, 0, 1);
        due("count(2)", x.count(2), 0);
        due("undo()", x.undo(), STATE);
        due("redo()", x.redo(), 0);
        due("of(0, 0)", x.of(0, 0), 6);
        says("undo() and redo() are no CHANGES themselves");
        for (int i = 0; i < 50; i++) {
            due("undo()", x.undo(), 0);
            due("redo()", x.redo(), 0);
        }
        due("count(2)", x.count(2), 1);
    }
}

/** Promises 31 to 34. */
public final class ImageTest {
    private static final Check CHECK = new Check("ImageTest");

    public static void main(String[] args) {
        promise31Undo();
        promise31OfEachCall();
        promise31EightAtMost();
        promise32And33Image();
        promise33LeavesNoneToUndo();
        promise34Count();
        CHECK.end();
    }

    private static void due(String call, long got, long want) {
        CHECK.due(call, got, want);
    }

    private static void promise31Undo() {
        CharactersMultiplied x = new CharactersMultiplied();
        Calls.reads(x, 0, "[2]");
        Calls.reads(x, 1, "3[3]");
        x.clear(0);
        x.clear(3);
        due("undo of clear(3)", x.undo(), 3);
        due("still clear", x.sum(0, 0), -11);
        due("undo of clear(0)", x.undo(), 2);
        Calls.holds(CHECK, x, 0, 2, 1, 0);
        Calls.holds(CHECK, x, 1, 3, 3, 0, 0);
        due("undo of reads(1)", x.undo(), 1);
        due("missing again", x.sum(1, 0), -11);
        due("undo of reads(0)", x.undo(), 0);
        due("count(0)", x.count(0), 0);
        due("nothing more", x.undo(), -3);
        Calls.refused(CHECK, x, 0, 0, 1, 0, 0);
    }

    private static void promise31OfEachCall() {
        CharactersMultiplied x = new CharactersMultiplied();
        Calls.reads(x, 0, "2[21]");
        x.makes(0, 0, 0, 2);
        x.changed(0, 1);
        x.changed(0, 2);
        x.changed(0, 0);
        Calls.holds(CHECK, x, 0, 3, 8, 16, 8);
        Calls.reads(x, 1, "[1");
        x.makes(3, 2, 2, 0);
        x.makes(3, 0, 0, 9);
        x.undo();
        x.undo();
        Calls.holds(CHECK, x, 0, 2, 8, 8);
        x.undo();
        Calls.holds(CHECK, x, 0, 3, 4, 4, 4);
        x.undo();
        Calls.holds(CHECK, x, 0, 3, 0, 2, 0);
        due("one is left", x.count(3), 1);
    }

    private static void promise31EightAtMost() {
        CharactersMultiplied x = new CharactersMultiplied();
        for (int i = 1; i <= 20; i++) {
            Calls.reads(x, i % 4, i + "[1]");
            due("what can be undone", x.count(3), Math.min(i, 8));
        }
        for (int i = 20; i > 12; i--) {
            due("coefficient ahead of undo", x.coefficient(i % 4, 1), i);
            due("undo()", x.undo(), i - 13);
            due("coefficient", x.coefficient(i % 4, 1), i - 4);
        }
        due("no more", x.undo(), -3);
        Calls.reads(x, 2, "[]");
        due("and again", x.undo(), 0);
        due("coefficient(2, 1)", x.coefficient(2, 1), 10);
    }

    private static void promise32And33Image() {
        CharactersMultiplied x = new CharactersMultiplied();
        due("on() ahead of an image", x.on(), -3);
        due("image of nothing", x.image(), 0);
        Calls.reads(x, 0, "[1]");
        due("on() from nothing", x.on(), 0);
        due("sum(0, 0)", x.sum(0, 0), -11);
        Calls.reads(x, 1, "4[2]-[11]");
        Calls.reads(x, 3, "[]");
        Calls.list(x, 0, 7);
        Calls.letters(x, "[");
        due("image()", x.image(), 2);
        due("image() leaves undo", x.count(3), 2);
        x.letter(']');
        x.put(0, 0, 8);
        x.clear(1);
        x.changed(3, 2);
        due("on()", x.on(), 2);
        Calls.holds(CHECK, x, 1, 2, 4, -1);
        Calls.holds(CHECK, x, 3, 0, 1);
        due("letters stay", x.count(1), 2);
        due("lists stay", x.look(0, 0), 8);
        x.clear(1);
        due("on() again", x.on(), 2);
        Calls.holds(CHECK, x, 1, 2, 4, -1);
        x.clear(1);
        due("image() anew", x.image(), 1);
        Calls.reads(x, 1, "[]");
        due("on() from the new one", x.on(), 1);
        due("refusals stay", x.count(13), 1);
    }

    private static void promise33LeavesNoneToUndo() {
        CharactersMultiplied x = new CharactersMultiplied();
        Calls.reads(x, 0, "[1]");
        x.image();
        Calls.reads(x, 0, "5[1]");
        due("on()", x.on(), 1);
        due("count(3)", x.count(3), 0);
        due("undo()", x.undo(), -3);
        Calls.reads(x, 0, "6[1]");
        due("undo() of a new one", x.undo(), 0);
        due("coefficient(0, 1)", x.coefficient(0, 1), 1);
    }

    private static void promise34Count() {
        CharactersMultiplied x = new CharactersMultiplied();
        Calls.reads(x, 0, "[21]+[3]");
        Calls.reads(x, 1, "[21]+[3]-[111]");
        Calls.reads(x, 2, "0[1]");
        Calls.letters(x, "[]");
        due("count(0)", x.count(0), 3);
        due("count(1)", x.count(1), 2);
        due("count(2)", x.count(2), 5);
        due("count(3)", x.count(3), 3);
        int[] others = {-1, 4, 5, 9, 10, 17, 18, Integer.MIN_VALUE, Integer.MAX_VALUE};
        for (int what : others) {
            due("count(" + what + ")", x.count(what), -9);
        }
        x.of(67, 0);
        x.character(67, 0);
        x.value(0, 67);
        x.of(0, 99);
        x.odds(1, 9, 0);
        x.shapes(-1, 0);
        x.odds(-1, 0, 0);
        x.lots(0, 1, 1, 1);
        x.lots(1, 0, 1, 1);
        x.odds(9, 0, 0);
        x.look(2, 0);
        x.list(2, -1);
        x.character(0, 1);
        x.rims(5, 8, 0);
        Calls.refused(CHECK, x, 3, 2, 1, 4, 1);
    }
}

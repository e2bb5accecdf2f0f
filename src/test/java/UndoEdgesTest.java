/**
 * The boundary cases of what is undone, of the image and of count() (the terms "can be UNDONE",
 * "THE IMAGE", and promises 31 to 34): each test stands under the words of the document that it holds to.
 */
public final class UndoEdgesTest {
    private static final Check CHECK = new Check("UndoEdgesTest");
    private static final int MOST_UNDOS = 8;

    public static void main(String[] args) {
        noneToUndo();
        eachThatIsNotRefusedCounts();
        clearOfMissingCounts();
        changesThatChangeNothingCount();
        refusedDoesNotCount();
        otherCallsDoNotCount();
        eightAtMost();
        olderOnesNoMore();
        latestFirst();
        allSumsAsAheadOfIt();
        undoneAndChangedAgain();
        imageOfNone();
        onWithoutImage();
        onFromImage();
        onTwice();
        imageAnew();
        imageLeavesUndo();
        onLeavesNone();
        lettersAndListsStay();
        undoLeavesTheImage();
        countOfSums();
        countOfOthers();
        countOfRefusals();
        lastOf512Calls();
        CHECK.end();
    }

    private static void due(String call, long got, long want) {
        CHECK.due(call, got, want);
    }

    // Promise 31: "-3 there is none."
    private static void noneToUndo() {
        CharactersMultiplied x = new CharactersMultiplied();
        due("undo() of a new object", x.undo(), -3);
        Calls.reads(x, 0, "[]");
        due("undo() of the only one", x.undo(), 0);
        due("undo() of no more", x.undo(), -3);
        due("sum(0, 0)", x.sum(0, 0), -11);
        Calls.refused(CHECK, x, 0, 0, 2, 0, 0);
    }

    // "What makes(), changed(), clear(), a SUM's text without FAULT did to a SUM can be UNDONE"
    private static void eachThatIsNotRefusedCounts() {
        CharactersMultiplied x = new CharactersMultiplied();
        Calls.reads(x, 0, "2[2]");
        due("behind a text", x.count(3), 1);
        x.makes(1, 0, 0, 0);
        x.makes(2, 0, 1, 1);
        x.makes(3, 0, 1, 2);
        due("behind makes()", x.count(3), 4);
        x.changed(1, 0);
        x.changed(2, 1);
        x.changed(3, 2);
        due("behind changed()", x.count(3), 7);
        x.clear(0);
        due("behind clear()", x.count(3), 8);
        due("undo of clear", x.undo(), 7);
        Calls.holds(CHECK, x, 0, 2, 2, 0);
        Calls.holds(CHECK, x, 3, 3, 8, 8, 0);
        due("undo of induced", x.undo(), 6);
        Calls.holds(CHECK, x, 3, 2, 8, 0);
        Calls.holds(CHECK, x, 2, 1, -2);
        due("undo of restricted", x.undo(), 5);
        Calls.holds(CHECK, x, 2, 2, -2, 0);
        Calls.holds(CHECK, x, 1, 2, 0, 4);
        due("undo of about", x.undo(), 4);
        Calls.holds(CHECK, x, 1, 2, 4, 0);
        due("undo of times", x.undo(), 3);
        due("missing", x.sum(3, 0), -11);
        due("undo of less", x.undo(), 2);
        due("missing", x.sum(2, 0), -11);
        due("undo of plus", x.undo(), 1);
        due("missing", x.sum(1, 0), -11);
        due("undo of the text", x.undo(), 0);
        due("missing", x.count(0), 0);
    }

    // "clear() of a missing one, too"
    private static void clearOfMissingCounts() {
        CharactersMultiplied x = new CharactersMultiplied();
        for (int i = 1; i <= 4; i++) {
            due("clear(" + (i - 1) + ")", x.clear(i - 1), 0);
            due("what can be undone", x.count(3), i);
        }
        due("undo()", x.undo(), 3);
        due("count(0)", x.count(0), 0);
    }

    // "each that isn't refused counts, also if all stays as it was"
    private static void changesThatChangeNothingCount() {
        CharactersMultiplied x = new CharactersMultiplied();
        Calls.reads(x, 0, "3[21]");
        Calls.reads(x, 1, "0[3]");
        Calls.reads(x, 0, "3[21]");
        due("the same text", x.count(3), 3);
        x.makes(0, 0, 1, 0);
        x.makes(0, 0, 1, 1);
        x.makes(1, 1, 1, 2);
        x.changed(0, 0);
        x.changed(1, 0);
        due("PLUS, LESS of none, TIMES of none, ABOUT", x.count(3), 8);
        for (int left = 7; left >= 1; left--) {
            due("undo()", x.undo(), left);
            Calls.holds(CHECK, x, 0, 3, 0, 3, 0);
        }
    }

    // "each that isn't refused counts": a refused one, one of a missing SUM and a FAULT don't
    private static void refusedDoesNotCount() {
        CharactersMultiplied x = new CharactersMultiplied();
        Calls.makes(x, 0, 3, 2, 1000000, 0);
        Calls.reads(x, 1, "[8]");
        x.image();
        x.on();
        Calls.reads(x, 2, "[]");
        due("one", x.count(3), 1);
        x.makes(2, 0, 0, 0);
        x.makes(2, 0, 0, 2);
        x.makes(2, 0, 1, 0);
        x.makes(2, 3, 0, 0);
        x.makes(2, 0, 3, 1);
        x.makes(4, 0, 0, 0);
        x.makes(2, 0, 0, 3);
        x.changed(1, 2);
        x.changed(2, 1);
        x.changed(3, 0);
        x.changed(4, 0);
        x.changed(0, 3);
        x.clear(4);
        x.clear(-1);
        Calls.reads(x, 2, "[2]+");
        x.reads(2);
        x.reads(4);
        due("still one", x.count(3), 1);
        Calls.holds(CHECK, x, 2, 0, 1);
        due("undo() of the text", x.undo(), 0);
        due("sum(2, 0)", x.sum(2, 0), -11);
    }

    // letters, LISTS, image() and what only tells can't be UNDONE
    private static void otherCallsDoNotCount() {
        CharactersMultiplied x = new CharactersMultiplied();
        Calls.letters(x, "[]");
        Calls.list(x, 0, 1, 2);
        x.lays(0, 0, 2);
        x.image();
        x.value(0, 0);
        x.inner(0, 0);
        x.sum(0, 0);
        x.lots(8, 50, 1, 0);
        due("none", x.count(3), 0);
        due("undo()", x.undo(), -3);
        due("letters", x.count(1), 2);
        due("look(0, 1)", x.look(0, 1), 1);
    }

    // "8 at most"
    private static void eightAtMost() {
        CharactersMultiplied x = new CharactersMultiplied();
        for (int i = 1; i <= 30; i++) {
            x.clear(0);
            due("count(3) behind " + i, x.count(3), Math.min(i, MOST_UNDOS));
        }
        for (int left = MOST_UNDOS - 1; left >= 0; left--) {
            due("undo()", x.undo(), left);
            due("count(3)", x.count(3), left);
        }
        due("the ninth", x.undo(), -3);
    }

    // "older ones no more": behind nine changes the first stays
    private static void olderOnesNoMore() {
        for (int changes = 8; changes <= 17; changes++) {
            CharactersMultiplied x = new CharactersMultiplied();
            for (int i = 1; i <= changes; i++) {
                Calls.reads(x, 0, i + "[]");
            }
            for (int i = 0; i < MOST_UNDOS; i++) {
                x.undo();
            }
            int stays = changes - MOST_UNDOS;
            due(changes + " changes, eight undone", x.coefficient(0, 0), stays == 0 ? Calls.NEAR + 11 : stays);
            due("no more", x.undo(), -3);
        }
    }

    // "the latest first"
    private static void latestFirst() {
        CharactersMultiplied x = new CharactersMultiplied();
        for (int i = 1; i <= 10; i++) {
            Calls.reads(x, i % 3, i + "[]");
        }
        for (int i = 10; i > 2; i--) {
            due("the latest", x.coefficient(i % 3, 0), i);
            due("undo()", x.undo(), i - 3);
            due("as ahead of it", x.coefficient(i % 3, 0), i > 3 ? i - 3 : Calls.NEAR + 11);
        }
        due("undo()", x.undo(), -3);
    }

    // "all SUMS are as ahead of it": SIZE, COEFFICIENTS, missing or not
    private static void allSumsAsAheadOfIt() {
        CharactersMultiplied x = new CharactersMultiplied();
        Calls.reads(x, 0, "[8]+2[4211]-3[11111111]");
        Calls.reads(x, 1, "5[2]");
        Calls.reads(x, 2, "0[3]");
        Calls.reads(x, 0, "[]");
        x.clear(1);
        x.makes(3, 2, 2, 0);
        Calls.reads(x, 2, "7[1]");
        due("undo of 7 [1]", x.undo(), 6);
        Calls.holds(CHECK, x, 2, 3, 0, 0, 0);
        Calls.holds(CHECK, x, 3, 3, 0, 0, 0);
        Calls.holds(CHECK, x, 0, 0, 1);
        due("undo of makes", x.undo(), 5);
        due("count(0)", x.count(0), 2);
        due("undo of clear", x.undo(), 4);
        Calls.holds(CHECK, x, 1, 2, 5, 0);
        due("undo of []", x.undo(), 3);
        Calls.holds(CHECK, x, 0, 8, 1, 0, 0, 0, 0, 0, 0, 0, 0, 0, 2, 0, 0, 0, 0, 0, 0, 0, 0, 0, 0, -3);
        due("terms", x.sum(0, 1), 3);
    }

    // UNDONE ones are gone: what comes behind them is UNDONE first, then those ahead of them
    private static void undoneAndChangedAgain() {
        CharactersMultiplied x = new CharactersMultiplied();
        for (int i = 1; i <= 8; i++) {
            Calls.reads(x, 0, i + "[]");
        }
        x.undo();
        x.undo();
        due("6 []", x.coefficient(0, 0), 6);
        Calls.reads(x, 0, "9[]");
        due("count(3)", x.count(3), 7);
        Calls.reads(x, 0, "10[]");
        Calls.reads(x, 0, "11[]");
        due("count(3)", x.count(3), 8);
        int[] ahead = {10, 9, 6, 5, 4, 3, 2, 1};
        for (int i = 0; i < ahead.length; i++) {
            due("undo()", x.undo(), 7 - i);
            due("coefficient(0, 0)", x.coefficient(0, 0), ahead[i]);
        }
        due("no more", x.undo(), -3);
    }

    // Promise 32: "how many SUMS aren't missing": none, and all four
    private static void imageOfNone() {
        CharactersMultiplied x = new CharactersMultiplied();
        due("of none", x.image(), 0);
        Calls.reads(x, 0, "0[8]");
        due("of one without terms", x.image(), 1);
        for (int sum = 1; sum <= 3; sum++) {
            Calls.reads(x, sum, "[]");
        }
        due("of all", x.image(), 4);
        for (int sum = 0; sum <= 3; sum++) {
            x.clear(sum);
        }
        due("on() to all", x.on(), 4);
    }

    // Promise 33: "-3 there is no IMAGE."; an IMAGE of no SUMS is one
    private static void onWithoutImage() {
        CharactersMultiplied x = new CharactersMultiplied();
        Calls.reads(x, 2, "[2]");
        due("on()", x.on(), -3);
        due("the sum stays", x.sum(2, 0), 2);
        due("what can be undone stays", x.count(3), 1);
        CharactersMultiplied y = new CharactersMultiplied();
        y.image();
        Calls.reads(y, 2, "[2]");
        due("on() to none", y.on(), 0);
        due("sum(2, 0)", y.sum(2, 0), -11);
        Calls.refused(CHECK, x, 0, 0, 1, 0, 0);
        Calls.refused(CHECK, y, 0, 0, 0, 0, 0);
    }

    // "ON from it these are as then": SIZE, COEFFICIENTS, missing or not
    private static void onFromImage() {
        CharactersMultiplied x = new CharactersMultiplied();
        Calls.reads(x, 0, "[8]-3[11111111]");
        Calls.reads(x, 1, "0[2]");
        Calls.reads(x, 3, "4[]");
        due("image()", x.image(), 3);
        Calls.reads(x, 0, "[2]");
        x.clear(1);
        Calls.reads(x, 2, "[5]");
        x.changed(3, 2);
        due("count(0)", x.count(0), 3);
        due("on()", x.on(), 3);
        Calls.holds(CHECK, x, 0, 8, 1, 0, 0, 0, 0, 0, 0, 0, 0, 0, 0, 0, 0, 0, 0, 0, 0, 0, 0, 0, 0, -3);
        Calls.holds(CHECK, x, 1, 2, 0, 0);
        due("sum(2, 0)", x.sum(2, 0), -11);
        Calls.holds(CHECK, x, 3, 0, 4);
    }

    // the IMAGE stays when ON came from it
    private static void onTwice() {
        CharactersMultiplied x = new CharactersMultiplied();
        Calls.reads(x, 0, "4[2]");
        x.image();
        for (int i = 0; i < 3; i++) {
            x.changed(0, 2);
            Calls.reads(x, 1, "[]");
            due("on()", x.on(), 1);
            Calls.holds(CHECK, x, 0, 2, 4, 0);
            due("sum(1, 0)", x.sum(1, 0), -11);
        }
        due("on() at once", x.on(), 1);
    }

    // THE IMAGE is one: the later takes the place of the earlier
    private static void imageAnew() {
        CharactersMultiplied x = new CharactersMultiplied();
        Calls.reads(x, 0, "4[2]");
        x.image();
        Calls.reads(x, 0, "5[2]");
        Calls.reads(x, 1, "6[2]");
        due("image()", x.image(), 2);
        x.clear(0);
        x.clear(1);
        due("on()", x.on(), 2);
        Calls.holds(CHECK, x, 0, 2, 5, 0);
        Calls.holds(CHECK, x, 1, 2, 6, 0);
        x.clear(0);
        x.clear(1);
        due("image() of none", x.image(), 0);
        Calls.reads(x, 0, "[]");
        due("on()", x.on(), 0);
    }

    // image() itself leaves what can be UNDONE
    private static void imageLeavesUndo() {
        CharactersMultiplied x = new CharactersMultiplied();
        Calls.reads(x, 0, "4[2]");
        Calls.reads(x, 0, "5[2]");
        x.image();
        due("count(3)", x.count(3), 2);
        due("undo()", x.undo(), 1);
        Calls.holds(CHECK, x, 0, 2, 4, 0);
    }

    // "ON leaves none."
    private static void onLeavesNone() {
        CharactersMultiplied x = new CharactersMultiplied();
        for (int i = 0; i < 9; i++) {
            Calls.reads(x, 0, i + "[2]");
        }
        x.image();
        due("eight", x.count(3), 8);
        x.on();
        due("none", x.count(3), 0);
        due("undo()", x.undo(), -3);
        x.clear(0);
        due("one", x.count(3), 1);
        due("undo() of it", x.undo(), 0);
        Calls.holds(CHECK, x, 0, 2, 8, 0);
        due("undo() of no more", x.undo(), -3);
    }

    // "(letters, LISTS stay)"
    private static void lettersAndListsStay() {
        CharactersMultiplied x = new CharactersMultiplied();
        Calls.letters(x, "[2");
        Calls.list(x, 0, 1);
        x.image();
        x.letter(']');
        Calls.list(x, 0, 5, 6);
        x.list(1, 0);
        due("on()", x.on(), 0);
        due("letters", x.count(1), 3);
        due("look(0, 1)", x.look(0, 1), 6);
        due("shape(1)", x.shape(1), 0);
        due("reads(0)", x.reads(0), 1);
        x.undo();
        due("letters behind undo()", x.count(1), 0);
        due("look(0, 0) behind undo()", x.look(0, 0), 5);
        due("refusals stay", x.count(13), 0);
    }

    // THE IMAGE is as it was taken, whatever is UNDONE
    private static void undoLeavesTheImage() {
        CharactersMultiplied x = new CharactersMultiplied();
        Calls.reads(x, 0, "4[2]");
        Calls.reads(x, 0, "5[2]");
        x.image();
        x.undo();
        x.undo();
        due("sum(0, 0)", x.sum(0, 0), -11);
        due("on()", x.on(), 1);
        Calls.holds(CHECK, x, 0, 2, 5, 0);
    }

    // Promise 34: "0 SUMS that aren't missing, 1 letters, 2 TERMS of all, 3 what can be UNDONE": least and most
    private static void countOfSums() {
        CharactersMultiplied x = new CharactersMultiplied();
        for (int what = 0; what <= 3; what++) {
            due("count(" + what + ") at first", x.count(what), 0);
        }
        Calls.reads(x, 0, "[4211]");
        for (int sum = 1; sum <= 3; sum++) {
            x.makes(sum, 0, 0, 2);
        }
        x.makes(0, 1, 1, 0);
        due("all sums", x.count(0), 4);
        due("all terms", x.count(2), 88);
        for (int i = 0; i < 72; i++) {
            x.letter(0);
        }
        due("all letters", x.count(1), 72);
        for (int i = 0; i < 9; i++) {
            x.changed(3, 0);
        }
        due("all that can be undone", x.count(3), 8);
        x.clear(0);
        due("sums left", x.count(0), 3);
        due("terms left", x.count(2), 66);
    }

    // Promise 34: "-9 for another what"
    private static void countOfOthers() {
        CharactersMultiplied x = new CharactersMultiplied();
        int[] others = {-1, 4, 5, 6, 7, 8, 9, 10, 17, 18, Integer.MIN_VALUE, Integer.MAX_VALUE, -11, -16};
        for (int what : others) {
            due("count(" + what + ")", x.count(what), -9);
        }
        Calls.refused(CHECK, x, 0, 0, 0, 0, 0);
    }

    // Promise 34: "11 .. 16 REFUSALS -1 .. -6": each its own, no call tells -5
    private static void countOfRefusals() {
        CharactersMultiplied x = new CharactersMultiplied();
        x.of(-1, 0);
        x.character(-1, 0);
        x.value(-1, 0);
        Calls.refused(CHECK, x, 3, 0, 0, 0, 0);
        x.of(0, -1);
        x.odds(0, 7, 0);
        Calls.refused(CHECK, x, 3, 2, 0, 0, 0);
        x.undo();
        x.character(0, 1);
        x.number(0, 0, 1);
        x.on();
        Calls.refused(CHECK, x, 3, 2, 4, 0, 0);
        x.letter(-1);
        x.odds(-1, 0, 0);
        x.shapes(-1, 0);
        x.rims(0, 0, 0);
        x.grown(0, -1);
        Calls.refused(CHECK, x, 3, 2, 4, 5, 0);
        x.letter(256);
        x.list(0, 41);
        x.odds(9, 0, 0);
        x.shapes(9, 0);
        x.grown(0, 9);
        x.rims(0, 9, 0);
        Calls.refused(CHECK, x, 3, 2, 4, 5, 6);
    }

    // "An object is used for at most 512 calls": the last of them, too
    private static void lastOf512Calls() {
        CharactersMultiplied x = new CharactersMultiplied();
        for (int call = 1; call < 512; call++) {
            due("call " + call, x.clear(call % 4), 0);
        }
        due("call 512", x.undo(), 7);
        CharactersMultiplied y = new CharactersMultiplied();
        for (int call = 1; call < 512; call++) {
            due("call " + call, y.of(67, 0), -1);
        }
        due("call 512", y.count(11), 511);
        CharactersMultiplied z = new CharactersMultiplied();
        for (int call = 1; call <= 512; call++) {
            CHECK.holds("call " + call, z.lots(8, 50, call, 1) >= 0);
        }
    }
}

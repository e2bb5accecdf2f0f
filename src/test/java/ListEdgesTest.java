/**
 * The boundary cases of lists (the terms "LISTS 0 .. 2", "JUDGED", "WHICH", and promises 25 to 30):
 * each test stands under the words of the document that it holds to. What a list tells as a shape
 * is in ShapeEdgesTest.
 */
public final class ListEdgesTest {
    private static final Check CHECK = new Check("ListEdgesTest");

    public static void main(String[] args) {
        lists0To2();
        fortyAtMost();
        all0Again();
        missingAndEmpty();
        firstAndLastPlace();
        eachInt();
        noSuchPlace();
        laysToTheEnd();
        laysNone();
        laysEach();
        judgedWholly();
        judgedFirstPlaceOtherwise();
        judgedFewer();
        judgedClassThatIsNotThere();
        whichOfEachSize();
        whichByNoNumbers();
        whichByLongLists();
        whichFirstAndLast();
        CHECK.end();
    }

    private static void due(String call, long got, long want) {
        CHECK.due(call, got, want);
    }

    private static void looks(CharactersMultiplied x, int list, int... values) {
        for (int i = 0; i < values.length; i++) {
            due("look(" + list + ", " + i + ")", x.look(list, i), values[i]);
        }
        due("look(" + list + ", " + values.length + ")", x.look(list, values.length), Calls.FAR + 13);
    }

    // "LISTS 0 .. 2": each is its own, -1 and 3 are none
    private static void lists0To2() {
        CharactersMultiplied x = new CharactersMultiplied();
        for (int list = 0; list <= 2; list++) {
            Calls.list(x, list, list + 5, list + 6);
        }
        for (int list = 0; list <= 2; list++) {
            looks(x, list, list + 5, list + 6);
        }
        int[] others = {-1, 3, Integer.MIN_VALUE, Integer.MAX_VALUE};
        for (int list : others) {
            due("list(" + list + ", 1)", x.list(list, 1), -1);
            due("put(" + list + ", 0, 0)", x.put(list, 0, 0), -1);
            due("look(" + list + ", 0)", x.look(list, 0), Calls.FAR + 1);
            due("lays(" + list + ", 0, 0)", x.lays(list, 0, 0), -1);
            due("judge(" + list + ", 0)", x.judge(list, 0), -1);
            due("which(" + list + ", 0, 0)", x.which(list, 0, 0), -1);
            due("shape(" + list + ")", x.shape(list), -1);
        }
        Calls.refused(CHECK, x, 28, 0, 0, 0, 0);
    }

    // "rows of ints (40 at most)", promise 25: "-6 40; -14" ("a size below 0")
    private static void fortyAtMost() {
        CharactersMultiplied x = new CharactersMultiplied();
        due("list(0, 40)", x.list(0, 40), 1);
        looks(x, 0, new int[40]);
        due("list(0, 41)", x.list(0, 41), -6);
        due("list(0, -1)", x.list(0, -1), -14);
        due("list(0, greatest)", x.list(0, Integer.MAX_VALUE), -6);
        due("list(0, least)", x.list(0, Integer.MIN_VALUE), -14);
        due("the list stays", x.look(0, 39), 0);
        due("list(1, 41)", x.list(1, 41), -6);
        due("list(1, -1)", x.list(1, -1), -14);
        due("it stays missing", x.look(1, 0), Calls.FAR + 11);
        Calls.refused(CHECK, x, 0, 0, 0, 0, 3);
    }

    // Promise 25: "A LIST becomes a row of n ints, all 0"
    private static void all0Again() {
        CharactersMultiplied x = new CharactersMultiplied();
        Calls.list(x, 0, 1, 2, 3, 4);
        Calls.list(x, 1, 1, 2, 3, 4);
        x.list(0, 4);
        looks(x, 0, 0, 0, 0, 0);
        x.put(0, 3, 9);
        x.list(0, 2);
        looks(x, 0, 0, 0);
        x.list(0, 4);
        looks(x, 0, 0, 0, 0, 0);
        looks(x, 1, 1, 2, 3, 4);
    }

    // a LIST of no numbers isn't missing
    private static void missingAndEmpty() {
        CharactersMultiplied x = new CharactersMultiplied();
        due("list(0, 0)", x.list(0, 0), 1);
        looks(x, 0);
        due("put(0, 0, 1)", x.put(0, 0, 1), -13);
        due("put(1, 0, 1)", x.put(1, 0, 1), -11);
        due("shape(0)", x.shape(0), 0);
        due("shape(1)", x.shape(1), -11);
        due("judge(0, 0)", x.judge(0, 0), -9);
        due("judge(1, 0)", x.judge(1, 0), -11);
        due("which(0, 0, 0)", x.which(0, 0, 0), 1);
        due("which(1, 0, 0)", x.which(1, 0, 0), -11);
        due("lays(0, 0, 0)", x.lays(0, 0, 0), -13);
        due("lays(1, 0, 0)", x.lays(1, 0, 0), -11);
        due("look(1, 0)", x.look(1, 0), Calls.FAR + 11);
        Calls.refused(CHECK, x, 0, 0, 0, 0, 0);
    }

    // Promises 26, 27: the first place and the last
    private static void firstAndLastPlace() {
        CharactersMultiplied x = new CharactersMultiplied();
        for (int list = 0; list <= 2; list++) {
            x.list(list, 40);
            due("put(" + list + ", 0, 7)", x.put(list, 0, 7 + list), 1);
            due("put(" + list + ", 39, 8)", x.put(list, 39, 8 + list), 1);
        }
        for (int list = 0; list <= 2; list++) {
            int[] values = new int[40];
            values[0] = 7 + list;
            values[39] = 8 + list;
            looks(x, list, values);
        }
    }

    // "rows of ints": each int, also those that look like refusals
    private static void eachInt() {
        CharactersMultiplied x = new CharactersMultiplied();
        int[] values = {Integer.MIN_VALUE, Integer.MAX_VALUE, -1, -9, -11, -13, 0, 1000000001};
        Calls.list(x, 2, values);
        looks(x, 2, values);
        Calls.refused(CHECK, x, 0, 0, 0, 0, 0);
    }

    // "-13 no such place"
    private static void noSuchPlace() {
        CharactersMultiplied x = new CharactersMultiplied();
        Calls.list(x, 0, 5, 6);
        int[] places = {-1, 2, 39, 40, Integer.MIN_VALUE, Integer.MAX_VALUE};
        for (int i : places) {
            due("put(0, " + i + ", 1)", x.put(0, i, 1), -13);
            due("look(0, " + i + ")", x.look(0, i), Calls.FAR + 13);
            due("lays(0, " + i + ", 0)", x.lays(0, i, 0), -13);
        }
        looks(x, 0, 5, 6);
        Calls.refused(CHECK, x, 0, 0, 0, 0, 0);
    }

    // Promise 28: "CHARACTERS .. at all CLASSES of its SIZE .. from place i on": just so many places
    private static void laysToTheEnd() {
        CharactersMultiplied x = new CharactersMultiplied();
        Calls.list(x, 0, 9, 9, 9, 9);
        due("one into the last place", x.lays(0, 3, 0), 1);
        looks(x, 0, 9, 9, 9, 1);
        due("three from place 1 on", x.lays(0, 1, 5), 3);
        looks(x, 0, 9, -1, 0, 2);
        due("three from place 0 on", x.lays(0, 0, 6), 3);
        looks(x, 0, 1, -1, 1, 2);
        x.list(1, 22);
        due("22 into 22", x.lays(1, 0, 66), 22);
        due("the last", x.look(1, 21), 1);
        x.list(1, 40);
        due("22 into the last 22 of 40", x.lays(1, 18, 45), 22);
        due("the place ahead", x.look(1, 17), 0);
        due("the first", x.look(1, 18), 1);
        due("the last", x.look(1, 39), 1);
    }

    // Promise 28: "-13 not all have a place (none is laid)"
    private static void laysNone() {
        CharactersMultiplied x = new CharactersMultiplied();
        Calls.list(x, 0, 9, 9, 9, 9);
        due("three from place 2 on", x.lays(0, 2, 5), -13);
        due("three from place -1 on", x.lays(0, -1, 5), -13);
        due("five into four", x.lays(0, 0, 7), -13);
        due("one from place 4 on", x.lays(0, 4, 0), -13);
        due("a place that wraps around", x.lays(0, Integer.MAX_VALUE, 5), -13);
        due("a place that wraps around", x.lays(0, Integer.MAX_VALUE - 2, 5), -13);
        due("the least place", x.lays(0, Integer.MIN_VALUE, 5), -13);
        looks(x, 0, 9, 9, 9, 9);
        x.list(1, 21);
        due("22 into 21", x.lays(1, 0, 45), -13);
        looks(x, 1, new int[21]);
        Calls.refused(CHECK, x, 0, 0, 0, 0, 0);
    }

    // Promise 28 of each SHAPE: as character() tells, and JUDGED so
    private static void laysEach() {
        for (int shape = 0; shape <= 66; shape++) {
            CharactersMultiplied x = new CharactersMultiplied();
            int count = Oracle.many(Oracle.size(shape));
            int first = Oracle.first(Oracle.size(shape));
            x.list(2, count);
            due("lays(2, 0, " + shape + ")", x.lays(2, 0, shape), count);
            for (int place = 0; place < count; place++) {
                due("look(2, " + place + ")", x.look(2, place), x.character(shape, first + place));
            }
            due("judge(2, " + shape + ")", x.judge(2, shape), -9);
            due("which(2, .., 0)", x.which(2, Oracle.size(shape), 0), 1);
            due("which(2, .., 1)", x.which(2, Oracle.size(shape), 1), shape);
        }
    }

    // JUDGED: a LIST as long as there are CLASSES, all right: -9
    private static void judgedWholly() {
        CharactersMultiplied x = new CharactersMultiplied();
        Calls.list(x, 0, 1);
        due("of SIZE 0", x.judge(0, 0), -9);
        due("of SIZE 1", x.judge(0, 1), -9);
        Calls.list(x, 0, -1, 1);
        due("of SIZE 2", x.judge(0, 3), -9);
        x.list(0, 22);
        x.lays(0, 0, 55);
        due("of SIZE 8", x.judge(0, 55), -9);
    }

    // JUDGED: "the first place that is otherwise"
    private static void judgedFirstPlaceOtherwise() {
        CharactersMultiplied x = new CharactersMultiplied();
        x.list(0, 22);
        x.lays(0, 0, 55);
        x.put(0, 21, 89);
        due("the last", x.judge(0, 55), 21);
        x.put(0, 7, 1000);
        due("the one ahead of it", x.judge(0, 55), 7);
        x.put(0, 0, 1);
        due("the first", x.judge(0, 55), 0);
        Calls.list(x, 1, 0);
        due("0 for 1 of SIZE 0", x.judge(1, 0), 0);
        Calls.list(x, 1, Integer.MIN_VALUE);
        due("the least int", x.judge(1, 0), 0);
    }

    // JUDGED: "-9 (also if it tells fewer)"
    private static void judgedFewer() {
        CharactersMultiplied x = new CharactersMultiplied();
        for (int length = 0; length <= 7; length++) {
            x.list(0, length);
            for (int place = 0; place < length; place++) {
                x.put(0, place, x.character(15, 12 + place));
            }
            due(length + " of seven", x.judge(0, 15), -9);
        }
        x.list(0, 0);
        due("none of one", x.judge(0, 0), -9);
        due("none of 22", x.judge(0, 66), -9);
    }

    // JUDGED: "(a CLASS that isn't there, too)"
    private static void judgedClassThatIsNotThere() {
        CharactersMultiplied x = new CharactersMultiplied();
        Calls.list(x, 0, 1, 0);
        due("a second of SIZE 0", x.judge(0, 0), 1);
        due("a second of SIZE 1", x.judge(0, 1), 1);
        Calls.list(x, 0, 1, 1, 1);
        due("a third of SIZE 2", x.judge(0, 2), 2);
        x.list(0, 23);
        x.lays(0, 0, 55);
        due("a 23rd of SIZE 8", x.judge(0, 55), 22);
        x.list(0, 40);
        x.lays(0, 0, 55);
        due("eighteen more", x.judge(0, 55), 22);
        x.put(0, 21, 0);
        due("and one ahead is otherwise", x.judge(0, 55), 21);
    }

    // Promise 30: "WHICH of a SIZE": 0 .. 8
    private static void whichOfEachSize() {
        CharactersMultiplied x = new CharactersMultiplied();
        Calls.list(x, 0, 1);
        int[] begin = {1, 1, 1, 2, 2, 3, 3, 4, 4};
        int[] least = {0, 1, 2, 4, 7, 12, 19, 30, 45};
        for (int size = 0; size <= 8; size++) {
            due("which(0, " + size + ", 0)", x.which(0, size, 0), begin[size]);
            due("which(0, " + size + ", 1)", x.which(0, size, 1), least[size]);
        }
        due("which(0, -1, 0)", x.which(0, -1, 0), -4);
        due("which(0, 9, 0)", x.which(0, 9, 0), -6);
        due("which(0, least, 0)", x.which(0, Integer.MIN_VALUE, 0), -4);
        due("which(0, greatest, 0)", x.which(0, Integer.MAX_VALUE, 0), -6);
        due("which(0, 8, 2)", x.which(0, 8, 2), -2);
        due("which(0, 8, -1)", x.which(0, 8, -1), -2);
    }

    // WHICH by a LIST of no numbers: all SHAPES of the SIZE, the least is the first
    private static void whichByNoNumbers() {
        CharactersMultiplied x = new CharactersMultiplied();
        x.list(0, 0);
        for (int size = 0; size <= 8; size++) {
            due("which(0, " + size + ", 0)", x.which(0, size, 0), x.shapes(size, 1));
            due("which(0, " + size + ", 1)", x.which(0, size, 1), x.shapes(size, 0));
        }
    }

    // Promise 30: "none by a LIST longer than there are CLASSES"
    private static void whichByLongLists() {
        CharactersMultiplied x = new CharactersMultiplied();
        x.list(0, 22);
        x.lays(0, 0, 66);
        due("22 of SIZE 8", x.which(0, 8, 0), 1);
        x.list(0, 23);
        x.lays(0, 0, 66);
        due("23 of SIZE 8", x.which(0, 8, 0), 0);
        due("23 of SIZE 8, the least", x.which(0, 8, 1), -9);
        Calls.list(x, 0, 1, 1);
        due("two of SIZE 0", x.which(0, 0, 0), 0);
        due("two of SIZE 1, the least", x.which(0, 1, 1), -9);
        due("two of SIZE 2", x.which(0, 2, 0), 1);
        due("two of SIZE 2, the least", x.which(0, 2, 1), 2);
    }

    // WHICH: "how many; the least; -9": where the first only, the last only, or none begins so
    private static void whichFirstAndLast() {
        CharactersMultiplied x = new CharactersMultiplied();
        Calls.list(x, 0, -1, 1);
        due("the last of SIZE 2", x.which(0, 2, 1), 3);
        due("one of them", x.which(0, 2, 0), 1);
        Calls.list(x, 0, -1);
        due("the least of those of SIZE 8", x.which(0, 8, 1), 46);
        due("how many of SIZE 8", x.which(0, 8, 0), 4);
        Calls.list(x, 0, -1, 1, -1, -1, 1);
        due("none of SIZE 4, by its third number", x.which(0, 4, 1), -9);
        Calls.list(x, 0, -1, 1, 1, -1, 1);
        due("the last of SIZE 4", x.which(0, 4, 1), 11);
        Calls.list(x, 0, 2);
        due("none of SIZE 8", x.which(0, 8, 0), 0);
        due("none of SIZE 8, the least", x.which(0, 8, 1), -9);
    }
}

/**
 * The boundary cases of shapes, hooks, rims, classes, kinds and odds (the terms "1 SHAPES" and
 * promises 1 to 9): each test stands under the words of the document that it holds to.
 * Which refusal is told first, and what is counted, is in RefusalEdgesTest.
 */
public final class ShapeEdgesTest {
    private static final Check CHECK = new Check("ShapeEdgesTest");
    private static final int LAST = 66;

    public static void main(String[] args) {
        newObject();
        anotherObject();
        rowsAboveZero();
        noneGreaterThanTheOneAhead();
        sizesFrom0To8();
        numbersFrom0On();
        numbersFallByRows();
        cells();
        turnedOfEach();
        turnedOfNoRows();
        hookCountsItself();
        dimensionOfNoCells();
        dimensionsOfAll();
        rimsOf1And8();
        rimsOfTheWholeShape();
        rowsOf0Go();
        rimsInOrderOfRows();
        rimsNotSoMany();
        rimsOfShapeWithoutRows();
        heightsFrom0To7();
        ordersOfClasses();
        characterOfShape0();
        characterWithoutRims();
        characterOfOddHeights();
        characterOfWholeClass();
        of();
        list();
        sizes();
        CHECK.end();
    }

    private static void due(String call, long got, long want) {
        CHECK.due(call, got, want);
    }

    /** What of() tells of a shape on an object of its own. */
    private static int of(int shape, int what) {
        return new CharactersMultiplied().of(shape, what);
    }

    private static int shapeOf(int... rows) {
        CharactersMultiplied x = new CharactersMultiplied();
        Calls.list(x, 0, rows);
        return x.shape(0);
    }

    // Promise 1: "No SUMS." and "LISTS 0 .. 2 are .. missing at first", "SUMS 0 .. 3 are missing at first"
    private static void newObject() {
        CharactersMultiplied x = new CharactersMultiplied();
        for (int what = 0; what <= 3; what++) {
            due("count(" + what + ") of a new object", x.count(what), 0);
        }
        for (int what = 11; what <= 16; what++) {
            due("count(" + what + ") of a new object", x.count(what), 0);
        }
        for (int sum = 0; sum <= 3; sum++) {
            due("sum " + sum + " at first", x.sum(sum, 0), -11);
        }
        for (int list = 0; list <= 2; list++) {
            due("list " + list + " at first", x.look(list, 0), Calls.FAR + 11);
        }
        due("no letters at first", x.letter('['), 1);
        due("nothing to undo at first", x.undo(), -3);
        due("no image at first", x.on(), -3);
    }

    // Promise 1: a new object has nothing of another one
    private static void anotherObject() {
        CharactersMultiplied x = new CharactersMultiplied();
        Calls.reads(x, 0, "[2]");
        Calls.list(x, 0, 1);
        Calls.letters(x, "[");
        x.image();
        x.of(-1, 0);
        newObject();
        due("the first object's sum", x.sum(0, 0), 2);
        due("the first object's letters", x.count(1), 1);
        due("the first object's refusals", x.count(11), 1);
    }

    // "SHAPES are rows of whole numbers above 0"
    private static void rowsAboveZero() {
        due("1", shapeOf(1), 1);
        due("0", shapeOf(0), -9);
        due("-1", shapeOf(-1), -9);
        due("2 0", shapeOf(2, 0), -9);
        due("2 -1", shapeOf(2, -1), -9);
        due("0 2", shapeOf(0, 2), -9);
        due("the least int", shapeOf(Integer.MIN_VALUE), -9);
    }

    // "none greater than the one ahead of it"
    private static void noneGreaterThanTheOneAhead() {
        due("2 2", shapeOf(2, 2), 9);
        due("2 3", shapeOf(2, 3), -9);
        due("2 1", shapeOf(2, 1), 5);
        due("1 2", shapeOf(1, 2), -9);
        due("3 2 2", shapeOf(3, 2, 2), 38);
        due("3 2 3", shapeOf(3, 2, 3), -9);
        due("3 1 2", shapeOf(3, 1, 2), -9);
        due("1 1 1 1 1 1 2", shapeOf(1, 1, 1, 1, 1, 1, 2), -9);
    }

    // "their sum is the SIZE (0 .. 8)"
    private static void sizesFrom0To8() {
        due("size of shape 0", of(0, 0), 0);
        due("size of the last shape", of(LAST, 0), 8);
        due("8", shapeOf(8), 45);
        due("9", shapeOf(9), -9);
        due("4 4", shapeOf(4, 4), 52);
        due("4 4 1", shapeOf(4, 4, 1), -9);
        due("7 1", shapeOf(7, 1), 46);
        due("7 2", shapeOf(7, 2), -9);
        due("8 1", shapeOf(8, 1), -9);
        due("eight rows", shapeOf(1, 1, 1, 1, 1, 1, 1, 1), LAST);
        due("nine rows", shapeOf(1, 1, 1, 1, 1, 1, 1, 1, 1), -9);
        due("the greatest int", shapeOf(Integer.MAX_VALUE), -9);
        due("a sum that wraps around to 8", shapeOf(1 << 30, 1 << 30, 1 << 30, 1 << 30, 8), -9);
        due("a row that is 1 in its last bits", shapeOf(16 + 1), -9);
        due("a row that is 1 in its last byte", shapeOf(256 + 1), -9);
    }

    // "They have numbers, from 0 on: .. (SHAPE 0: no rows) .. 67 in all"
    private static void numbersFrom0On() {
        due("rows of shape 0", of(0, 1), 0);
        due("of(-1, 0)", of(-1, 0), -1);
        due("of(66, 0)", of(LAST, 0), 8);
        due("of(67, 0)", of(LAST + 1, 0), -1);
        due("of(least, 0)", of(Integer.MIN_VALUE, 0), -1);
        due("of(greatest, 0)", of(Integer.MAX_VALUE, 0), -1);
    }

    // "those of less SIZE ahead .., of one SIZE those with the greater first row ahead, of like ones .."
    private static void numbersFallByRows() {
        for (int shape = 0; shape < LAST; shape++) {
            CharactersMultiplied x = new CharactersMultiplied();
            int size = x.of(shape, 0);
            int next = x.of(shape + 1, 0);
            int row = 10;
            while (row < 17 && x.of(shape, row) == x.of(shape + 1, row)) {
                row++;
            }
            CHECK.holds(shape + " is ahead of " + (shape + 1),
                size < next || size == next && x.of(shape, row) > x.of(shape + 1, row));
            CHECK.holds("a size ends with one column and begins with one row",
                size == next || x.of(shape, 1) == size && x.of(shape + 1, 10) == next);
        }
    }

    // "CELLS of a SHAPE: (r, c), r and c from 0 on, c below row r"
    private static void cells() {
        for (int shape = 0; shape <= LAST; shape++) {
            CharactersMultiplied x = new CharactersMultiplied();
            for (int r = -1; r <= 8; r++) {
                for (int c = -1; c <= 8; c++) {
                    int row = r >= 0 && r < 8 ? x.of(shape, 10 + r) : 0;
                    CHECK.holds("cell (" + r + ", " + c + ") of " + shape,
                        c >= 0 && c < row ? x.hook(shape, r, c) > 0 : x.hook(shape, r, c) == -1);
                }
            }
        }
    }

    // "TURNED: the SHAPE whose row c is how many rows have a CELL in column c."
    private static void turnedOfEach() {
        for (int shape = 0; shape <= LAST; shape++) {
            CharactersMultiplied x = new CharactersMultiplied();
            int turned = x.of(shape, 2);
            for (int c = 0; c < 8; c++) {
                int cells = 0;
                for (int r = 0; r < 8; r++) {
                    cells += x.of(shape, 10 + r) > c ? 1 : 0;
                }
                due("row " + c + " of " + shape + " turned", x.of(turned, 10 + c), cells);
            }
            due(shape + " turned twice", x.of(turned, 2), shape);
        }
    }

    // TURNED at the edges: no rows, one cell, one row of 8, one column of 8
    private static void turnedOfNoRows() {
        due("() turned", of(0, 2), 0);
        due("(1) turned", of(1, 2), 1);
        due("(8) turned", of(45, 2), LAST);
        due("(1, 1, 1, 1, 1, 1, 1, 1) turned", of(LAST, 2), 45);
    }

    // "HOOK at a CELL: how many CELLS are to the right of it in its row, below it in its column, and itself."
    private static void hookCountsItself() {
        CharactersMultiplied x = new CharactersMultiplied();
        due("the only cell", x.hook(1, 0, 0), 1);
        for (int i = 0; i < 8; i++) {
            due("cell " + i + " of (8)", x.hook(45, 0, i), 8 - i);
            due("cell " + i + " of the column", x.hook(LAST, i, 0), 8 - i);
        }
        due("only to the right", x.hook(14, 1, 0), 2);
        due("only below", x.hook(18, 0, 0), 5);
        due("both", x.hook(15, 0, 0), 5);
        due("the last of a row above another", x.hook(9, 0, 1), 2);
        due("the last of all", x.hook(9, 1, 1), 1);
    }

    // "DIMENSION: 1, 2, .. SIZE multiplied, divided by all HOOKS multiplied": of SIZE 0 and 1 nothing but 1
    private static void dimensionOfNoCells() {
        due("dimension of ()", of(0, 3), 1);
        due("dimension of (1)", of(1, 3), 1);
        due("dimension of (8)", of(45, 3), 1);
        due("dimension of the column of 8", of(LAST, 3), 1);
        due("the greatest dimension", of(55, 3), 90);
    }

    // DIMENSIONS of a SIZE, each multiplied by itself, are together 1, 2, .. SIZE multiplied
    private static void dimensionsOfAll() {
        for (int size = 0; size <= 8; size++) {
            CharactersMultiplied x = new CharactersMultiplied();
            long together = 0;
            for (int shape = x.shapes(size, 0); shape <= LAST && x.of(shape, 0) == size; shape++) {
                together += (long) x.of(shape, 3) * x.of(shape, 3);
            }
            due("squares of the dimensions of " + size, together, Oracle.factorial(size));
        }
    }

    // "Taking a RIM of k (1 .. 8) CELLS off a SHAPE"
    private static void rimsOf1And8() {
        CharactersMultiplied x = new CharactersMultiplied();
        due("rims(45, 0, -1)", x.rims(45, 0, -1), -4);
        due("rims(45, 1, -1)", x.rims(45, 1, -1), 1);
        due("rims(45, 8, -1)", x.rims(45, 8, -1), 1);
        due("rims(45, 9, -1)", x.rims(45, 9, -1), -6);
        due("height(45, 0, 0)", x.height(45, 0, 0), -4);
        due("height(45, 1, 0)", x.height(45, 1, 0), 0);
        due("height(45, 8, 0)", x.height(45, 8, 0), 0);
        due("height(45, 9, 0)", x.height(45, 9, 0), -6);
        due("rims(45, least, -1)", x.rims(45, Integer.MIN_VALUE, -1), -4);
        due("rims(45, greatest, -1)", x.rims(45, Integer.MAX_VALUE, -1), -6);
        due("height(45, least, 0)", x.height(45, Integer.MIN_VALUE, 0), -4);
        due("height(45, greatest, 0)", x.height(45, Integer.MAX_VALUE, 0), -6);
    }

    // A RIM of as many CELLS as there are: only a SHAPE of the KIND CORNER has it, and SHAPE 0 is left
    private static void rimsOfTheWholeShape() {
        for (int shape = 1; shape <= LAST; shape++) {
            CharactersMultiplied x = new CharactersMultiplied();
            int size = x.of(shape, 0);
            boolean corner = (x.of(shape, 5) & 8) != 0;
            due("rims of all cells of " + shape, x.rims(shape, size, -1), corner ? 1 : 0);
            due("what is left of " + shape, x.rims(shape, size, 0), corner ? 0 : -9);
            due("its height", x.height(shape, size, 0), corner ? x.of(shape, 1) - 1 : -9);
            due("more cells than there are", size == 8 ? 0 : x.rims(shape, size + 1, -1), 0);
        }
    }

    // "rows r .. e less 1 become what the row behind them was, less 1; row e becomes the CELL's column c; rows of 0 go"
    private static void rowsOf0Go() {
        CharactersMultiplied x = new CharactersMultiplied();
        due("row e becomes 0, and goes", x.rims(5, 1, 1), 2);
        due("all rows go", x.rims(5, 3, 0), 0);
        due("row e becomes 1", x.rims(9, 2, 0), 3);
        due("the last row goes", x.rims(9, 2, 1), 2);
        due("three of eight rows go", x.rims(LAST, 3, 0), 18);
        due("rows r .. e less 1 become 0, too", x.rims(15, 5, 0), 0);
        due("a row between others becomes less", x.rims(24, 3, 0), 6);
        due("and the one behind it", x.rims(24, 3, 1), 4);
        due("(4, 2, 1, 1) without (1, 1) of its first column", x.rims(55, 2, 1), 21);
    }

    // "RIMS of k: one for each CELL with such a HOOK, in order of r."
    private static void rimsInOrderOfRows() {
        CharactersMultiplied x = new CharactersMultiplied();
        due("corners of (3, 2, 1)", x.rims(24, 1, -1), 3);
        due("(2, 2, 1)", x.rims(24, 1, 0), 16);
        due("(3, 1, 1)", x.rims(24, 1, 1), 15);
        due("(3, 2)", x.rims(24, 1, 2), 14);
        due("rims of 3 of (3, 2, 1)", x.rims(24, 3, -1), 2);
        due("hooks of 3 in rows 0 and 1", x.hook(24, 0, 1) * 10 + x.hook(24, 1, 0), 33);
        due("rims of 2 of (2, 2)", x.rims(9, 2, -1), 2);
        due("height of the one in row 0", x.height(9, 2, 0), 1);
        due("height of the one in row 1", x.height(9, 2, 1), 0);
    }

    // Promises 6, 7: "how many (i -1), what is left by the i-th; -9 there are not so many"
    private static void rimsNotSoMany() {
        for (int shape = 0; shape <= LAST; shape++) {
            CharactersMultiplied x = new CharactersMultiplied();
            int together = 0;
            for (int k = 1; k <= 8; k++) {
                int many = x.rims(shape, k, -1);
                together += many;
                due("rims(" + shape + ", " + k + ", how many)", x.rims(shape, k, many), -9);
                due("height(" + shape + ", " + k + ", how many)", x.height(shape, k, many), -9);
                due("rims(" + shape + ", " + k + ", greatest)", x.rims(shape, k, Integer.MAX_VALUE), -9);
                due("height(" + shape + ", " + k + ", greatest)", x.height(shape, k, Integer.MAX_VALUE), -9);
                if (many > 0) {
                    due("size left by the last", x.of(x.rims(shape, k, many - 1), 0), x.of(shape, 0) - k);
                    CHECK.holds("height of the last", x.height(shape, k, many - 1) >= 0);
                }
            }
            due("one rim for each cell of " + shape, together, x.of(shape, 0));
        }
    }

    // SHAPE 0 has no CELL: no HOOK, no RIM
    private static void rimsOfShapeWithoutRows() {
        CharactersMultiplied x = new CharactersMultiplied();
        due("hook(0, 0, 0)", x.hook(0, 0, 0), -1);
        for (int k = 1; k <= 8; k++) {
            due("rims(0, " + k + ", -1)", x.rims(0, k, -1), 0);
            due("rims(0, " + k + ", 0)", x.rims(0, k, 0), -9);
            due("height(0, " + k + ", 0)", x.height(0, k, 0), -9);
        }
    }

    // "its HEIGHT is e less r", "e the last row that has a CELL in its column"
    private static void heightsFrom0To7() {
        CharactersMultiplied x = new CharactersMultiplied();
        for (int k = 1; k <= 8; k++) {
            due("height of " + k + " of (8)", x.height(45, k, 0), 0);
            due("height of " + k + " of the column", x.height(LAST, k, 0), k - 1);
        }
        due("e is in the CELL's column, not in the first", x.height(55, 4, 0), 1);
    }

    // "ORDERS of a CLASS": of no things one order; the CLASS of rows of 1 has one; all are 1 2 .. SIZE multiplied
    private static void ordersOfClasses() {
        due("orders of shape 0", of(0, 4), 1);
        due("orders of (1)", of(1, 4), 1);
        due("one cycle of 8", of(45, 4), 5040);
        due("eight cycles of 1", of(LAST, 4), 1);
        due("four cycles of 2: 1 2 3 4 multiplied", of(62, 4), 105);
        due("two of 2, four of 1: both how often they are", of(64, 4), 210);
        for (int size = 0; size <= 8; size++) {
            CharactersMultiplied x = new CharactersMultiplied();
            long together = 0;
            for (int shape = x.shapes(size, 0); shape <= LAST && x.of(shape, 0) == size; shape++) {
                together += x.of(shape, 4);
            }
            due("all orders of " + size, together, Oracle.factorial(size));
        }
    }

    // "CHARACTER of a SHAPE at a CLASS of the same SIZE: of SHAPE 0: 1"
    private static void characterOfShape0() {
        CharactersMultiplied x = new CharactersMultiplied();
        due("character(0, 0)", x.character(0, 0), 1);
        due("character(1, 1)", x.character(1, 1), 1);
        due("character(1, 0)", x.character(1, 0), Calls.NEAR + 3);
        due("character(0, 1)", x.character(0, 1), Calls.NEAR + 3);
        due("character(66, 66)", x.character(LAST, LAST), 1);
        due("character(67, 66)", x.character(LAST + 1, LAST), Calls.NEAR + 1);
        due("character(66, 67)", x.character(LAST, LAST + 1), Calls.NEAR + 1);
        due("the last of SIZE 7 at the first of SIZE 8", x.character(44, 45), Calls.NEAR + 3);
    }

    // "the sum, over all RIMS of k of the SHAPE": 0 where it has none
    private static void characterWithoutRims() {
        CharactersMultiplied x = new CharactersMultiplied();
        due("(2, 2) at (4)", x.character(9, 7), 0);
        due("(2, 1) at (2, 1)", x.character(5, 5), 0);
        for (int shape = 45; shape <= LAST; shape++) {
            boolean corner = x.rims(shape, 8, -1) == 1;
            CHECK.holds(shape + " at a cycle of 8", corner == (x.character(shape, 45) != 0));
        }
    }

    // "times -1, if the HEIGHT is odd"
    private static void characterOfOddHeights() {
        CharactersMultiplied x = new CharactersMultiplied();
        due("height 0", x.character(2, 2), 1);
        due("height 1", x.character(3, 2), -1);
        due("height 2", x.character(6, 4), 1);
        due("height 7", x.character(LAST, 45), -1);
        due("heights 1 and 1", x.character(11, 9), 1);
        due("heights 1 and 0 in one sum", x.character(9, 9), 2);
    }

    // "what is left at the CLASS without that row": the CLASS of one row leaves SHAPE 0; that of rows of 1, DIMENSION
    private static void characterOfWholeClass() {
        for (int shape = 0; shape <= LAST; shape++) {
            CharactersMultiplied x = new CharactersMultiplied();
            int size = x.of(shape, 0);
            int identity = x.shapes(size, 0) + x.shapes(size, 1) - 1;
            due(shape + " at the class of rows of 1", x.character(shape, identity), x.of(shape, 3));
            due("the line at " + shape, x.character(x.shapes(size, 0), shape), 1);
        }
    }

    // Promise 2: "10 and i row i (0: it has not so many; i 0 .. 7)"
    private static void of() {
        CharactersMultiplied x = new CharactersMultiplied();
        due("row 0 of shape 0", x.of(0, 10), 0);
        due("row 7 of shape 0", x.of(0, 17), 0);
        due("row 0 of (8)", x.of(45, 10), 8);
        due("row 1 of (8)", x.of(45, 11), 0);
        due("row 7 of (8)", x.of(45, 17), 0);
        due("row 6 of the column of 7", x.of(44, 16), 1);
        due("row 7 of the column of 7", x.of(44, 17), 0);
        due("row 7 of the column of 8", x.of(LAST, 17), 1);
        int[] others = {-1, 6, 7, 8, 9, 18, 19, Integer.MIN_VALUE, Integer.MAX_VALUE};
        for (int what : others) {
            due("of(66, " + what + ")", x.of(LAST, what), -2);
        }
    }

    // Promise 3: "-9 it tells none (0 behind, too; one of no numbers tells SHAPE 0)", "by all its numbers as rows"
    private static void list() {
        due("no numbers", shapeOf(), 0);
        due("0 behind", shapeOf(2, 1, 0), -9);
        due("0 behind eight rows", shapeOf(1, 1, 1, 1, 1, 1, 1, 1, 0), -9);
        due("nothing but 0", shapeOf(0, 0, 0), -9);
        due("forty numbers", shapeOf(new int[40]), -9);
        due("rows behind a 0", shapeOf(2, 0, 1), -9);
        for (int shape = 0; shape <= LAST; shape++) {
            due("the rows of " + shape, shapeOf(Oracle.SHAPES.get(shape)), shape);
        }
    }

    // Promise 4: "The first SHAPE of a SIZE (what 0), how many there are (1). -4; -6 8; -2."
    private static void sizes() {
        CharactersMultiplied x = new CharactersMultiplied();
        due("shapes(0, 0)", x.shapes(0, 0), 0);
        due("shapes(0, 1)", x.shapes(0, 1), 1);
        due("shapes(8, 0)", x.shapes(8, 0), 45);
        due("shapes(8, 1)", x.shapes(8, 1), 22);
        due("shapes(-1, 0)", x.shapes(-1, 0), -4);
        due("shapes(9, 0)", x.shapes(9, 0), -6);
        due("shapes(least, 0)", x.shapes(Integer.MIN_VALUE, 0), -4);
        due("shapes(greatest, 0)", x.shapes(Integer.MAX_VALUE, 0), -6);
        due("shapes(8, -1)", x.shapes(8, -1), -2);
        due("shapes(8, 2)", x.shapes(8, 2), -2);
        due("where SIZE 8 begins is where SIZE 7 ends", x.shapes(7, 0) + x.shapes(7, 1), 45);
    }
}

/** Promises 1 to 9. */
public final class ShapesTest {
    private static final Check CHECK = new Check("ShapesTest");

    public static void main(String[] args) {
        promise1NewObject();
        promise2Of();
        promise2Classes();
        promise2Kinds();
        promise3Shape();
        promise4Shapes();
        promise5Hook();
        promise6Rims();
        promise7Height();
        promise8Character();
        promise9Odds();
        CHECK.end();
    }

    private static void due(String call, long got, long want) {
        CHECK.due(call, got, want);
    }

    private static void promise1NewObject() {
        CharactersMultiplied x = new CharactersMultiplied();
        for (int what = 0; what < 4; what++) {
            due("new count(" + what + ")", x.count(what), 0);
        }
        for (int i = 0; i < 4; i++) {
            due("new sum(" + i + ", 0)", x.sum(i, 0), -11);
        }
        for (int i = 0; i < 3; i++) {
            due("new shape(" + i + ")", x.shape(i), -11);
        }
        due("new undo()", x.undo(), -3);
        due("new on()", x.on(), -3);
        CharactersMultiplied y = new CharactersMultiplied();
        due("another's refusals", y.count(13), 0);
    }

    private static void promise2Of() {
        CharactersMultiplied x = new CharactersMultiplied();
        int[] dimensionsOf8 = {1, 7, 20, 21, 28, 64, 35, 14, 70, 56, 90, 35, 42, 56, 70, 64, 21, 14, 28, 20, 7, 1};
        for (int i = 0; i < dimensionsOf8.length; i++) {
            due("of(" + (45 + i) + ", 3)", x.of(45 + i, 3), dimensionsOf8[i]);
            due("of(" + (45 + i) + ", 0)", x.of(45 + i, 0), 8);
        }
        int[] rows = {4, 2, 1, 1, 0, 0, 0, 0};
        for (int i = 0; i < rows.length; i++) {
            due("row " + i + " of (4, 2, 1, 1)", x.of(55, 10 + i), rows[i]);
        }
        due("rows of (4, 2, 1, 1)", x.of(55, 1), 4);
        due("(4, 2, 1, 1) turned", x.of(55, 2), 55);
        due("(8) turned", x.of(45, 2), 66);
        due("(5, 2, 1) turned", x.of(50, 2), 60);
        due("row 7 of eight rows", x.of(66, 17), 1);
        due("of(-1, 99)", x.of(-1, 99), -1);
        due("of(67, 0)", x.of(67, 0), -1);
        due("of(0, -1)", x.of(0, -1), -2);
        due("of(0, 6)", x.of(0, 6), -2);
        due("of(0, 9)", x.of(0, 9), -2);
        due("of(0, 18)", x.of(0, 18), -2);
        due("of(0, greatest int)", x.of(0, Integer.MAX_VALUE), -2);
        Calls.refused(CHECK, x, 2, 5, 0, 0, 0);
    }

    private static void promise2Classes() {
        CharactersMultiplied x = new CharactersMultiplied();
        int[] ordersOf8 = {5040, 5760, 3360, 3360, 2688, 4032, 1344, 1260, 3360, 1260, 2520, 420,
            1120, 1120, 1680, 1120, 112, 105, 420, 210, 28, 1};
        int together = 0;
        for (int i = 0; i < ordersOf8.length; i++) {
            due("of(" + (45 + i) + ", 4)", x.of(45 + i, 4), ordersOf8[i]);
            together += x.of(45 + i, 4);
        }
        due("all orders", together, 40320);
        due("orders of no things", x.of(0, 4), 1);
    }

    private static void promise2Kinds() {
        CharactersMultiplied x = new CharactersMultiplied();
        due("kinds of ()", x.of(0, 5), 1 + 2 + 4 + 16 + 32 + 64);
        due("kinds of (1)", x.of(1, 5), 127);
        due("kinds of (2)", x.of(2, 5), 1 + 4 + 8 + 32);
        due("kinds of (1, 1)", x.of(3, 5), 2 + 4 + 8 + 32);
        due("kinds of (2, 1)", x.of(5, 5), 4 + 8 + 16 + 64);
        due("kinds of (2, 2)", x.of(9, 5), 4 + 16 + 32);
        due("kinds of (3, 2)", x.of(14, 5), 4);
        due("kinds of (3, 1, 1)", x.of(15, 5), 8 + 16);
        due("kinds of (3, 2, 1)", x.of(24, 5), 16 + 64);
        due("kinds of (2, 2, 2)", x.of(26, 5), 32);
        due("kinds of (4, 2, 1)", x.of(35, 5), 0);
        due("kinds of (4, 2, 1, 1)", x.of(55, 5), 16);
        due("kinds of (8)", x.of(45, 5), 1 + 4 + 8 + 32);
        due("kinds of (5, 3)", x.of(49, 5), 4);
        due("kinds of (4, 3, 1)", x.of(53, 5), 0);
    }

    private static void promise3Shape() {
        CharactersMultiplied x = new CharactersMultiplied();
        x.list(0, 0);
        due("no numbers", x.shape(0), 0);
        Calls.list(x, 0, 4, 2, 1, 1);
        due("4 2 1 1", x.shape(0), 55);
        Calls.list(x, 1, 8);
        due("8", x.shape(1), 45);
        Calls.list(x, 2, 1, 1, 1, 1, 1, 1, 1, 1);
        due("eight 1", x.shape(2), 66);
        int[][] none = {{0}, {2, 0}, {1, 2}, {9}, {8, 1}, {-1}, {3, -1}, {4, 4, 1}, {1, 1, 1, 1, 1, 1, 1, 1, 1},
            {Integer.MAX_VALUE, Integer.MAX_VALUE, 2}, {Integer.MIN_VALUE}, {2, 0, 1}};
        for (int[] rows : none) {
            Calls.list(x, 0, rows);
            due("a list of no shape from " + rows[0], x.shape(0), -9);
        }
        x.list(0, 40);
        due("forty 0", x.shape(0), -9);
        due("shape(-1)", x.shape(-1), -1);
        due("shape(3)", x.shape(3), -1);
        due("missing", new CharactersMultiplied().shape(2), -11);
        Calls.refused(CHECK, x, 2, 0, 0, 0, 0);
    }

    private static void promise4Shapes() {
        CharactersMultiplied x = new CharactersMultiplied();
        int[] counts = {1, 1, 2, 3, 5, 7, 11, 15, 22};
        int first = 0;
        for (int size = 0; size <= 8; size++) {
            due("shapes(" + size + ", 0)", x.shapes(size, 0), first);
            due("shapes(" + size + ", 1)", x.shapes(size, 1), counts[size]);
            first += counts[size];
        }
        due("shapes(-1, 2)", x.shapes(-1, 2), -4);
        due("shapes(9, 2)", x.shapes(9, 2), -6);
        due("shapes(8, 2)", x.shapes(8, 2), -2);
        due("shapes(0, -1)", x.shapes(0, -1), -2);
        Calls.refused(CHECK, x, 0, 2, 0, 1, 1);
    }

    private static void promise5Hook() {
        CharactersMultiplied x = new CharactersMultiplied();
        int[][] hooks = {{7, 4, 2, 1}, {4, 1}, {2}, {1}};
        for (int r = 0; r < hooks.length; r++) {
            for (int c = 0; c < hooks[r].length; c++) {
                due("hook(55, " + r + ", " + c + ")", x.hook(55, r, c), hooks[r][c]);
            }
        }
        due("hook(55, 1, 2)", x.hook(55, 1, 2), -1);
        due("hook(55, 4, 0)", x.hook(55, 4, 0), -1);
        due("hook(55, -1, 0)", x.hook(55, -1, 0), -1);
        due("hook(55, 0, -1)", x.hook(55, 0, -1), -1);
        due("hook(55, 8, 0)", x.hook(55, 8, 0), -1);
        due("hook(54, 8, -1)", x.hook(54, 8, -1), -1);
        due("hook(-1, 0, 0)", x.hook(-1, 0, 0), -1);
        due("hook(67, 0, 0)", x.hook(67, 0, 0), -1);
        due("hook(45, greatest, greatest)", x.hook(45, Integer.MAX_VALUE, Integer.MAX_VALUE), -1);
        due("hook(45, 0, 7)", x.hook(45, 0, 7), 1);
        due("hook(66, 7, 0)", x.hook(66, 7, 0), 1);
        Calls.refused(CHECK, x, 9, 0, 0, 0, 0);
    }

    private static void promise6Rims() {
        CharactersMultiplied x = new CharactersMultiplied();
        due("corners of (4, 2, 1, 1)", x.rims(55, 1, -1), 3);
        due("(3, 2, 1, 1)", x.rims(55, 1, 0), 39);
        due("(4, 1, 1, 1)", x.rims(55, 1, 1), 36);
        due("(4, 2, 1)", x.rims(55, 1, 2), 35);
        due("a fourth corner", x.rims(55, 1, 3), -9);
        due("rims of 4", x.rims(55, 4, -1), 2);
        due("(1, 1, 1, 1) out of row 0", x.rims(55, 4, 0), 11);
        due("(4) out of row 1", x.rims(55, 4, 1), 7);
        due("the rim of 7", x.rims(55, 7, 0), 1);
        due("rims of 3", x.rims(55, 3, -1), 0);
        due("rims of 3, the first", x.rims(55, 3, 0), -9);
        due("all of (8)", x.rims(45, 8, 0), 0);
        due("rims of 8 of (1)", x.rims(1, 8, -1), 0);
        due("rims(55, 1, greatest)", x.rims(55, 1, Integer.MAX_VALUE), -9);
        due("rims(-1, 0, 0)", x.rims(-1, 0, 0), -1);
        due("rims(67, 9, -2)", x.rims(67, 9, -2), -1);
        due("rims(1, 0, 0)", x.rims(1, 0, 0), -4);
        due("rims(1, 1, -2)", x.rims(1, 1, -2), -4);
        due("rims(1, 9, -2)", x.rims(1, 9, -2), -4);
        due("rims(1, 9, -1)", x.rims(1, 9, -1), -6);
        Calls.refused(CHECK, x, 2, 0, 0, 3, 1);
    }

    private static void promise7Height() {
        CharactersMultiplied x = new CharactersMultiplied();
        due("height(55, 7, 0)", x.height(55, 7, 0), 3);
        due("height(55, 4, 0)", x.height(55, 4, 0), 1);
        due("height(55, 4, 1)", x.height(55, 4, 1), 2);
        due("height(55, 4, 2)", x.height(55, 4, 2), -9);
        due("height(66, 8, 0)", x.height(66, 8, 0), 7);
        due("height(45, 8, 0)", x.height(45, 8, 0), 0);
        due("height(55, 1, 2)", x.height(55, 1, 2), 0);
        due("height(55, 2, 0)", x.height(55, 2, 0), 0);
        due("height(55, 3, 0)", x.height(55, 3, 0), -9);
        due("height(-1, 0, 0)", x.height(-1, 0, 0), -1);
        due("height(67, 1, 0)", x.height(67, 1, 0), -1);
        due("height(1, 0, 0)", x.height(1, 0, 0), -4);
        due("height(1, 1, -1)", x.height(1, 1, -1), -4);
        due("height(1, 9, -1)", x.height(1, 9, -1), -4);
        due("height(1, 9, 0)", x.height(1, 9, 0), -6);
        Calls.refused(CHECK, x, 2, 0, 0, 3, 1);
    }

    private static void promise8Character() {
        CharactersMultiplied x = new CharactersMultiplied();
        int[][] of5 = {
            {1, 1, 1, 1, 1, 1, 1},
            {-1, 0, -1, 1, 0, 2, 4},
            {0, -1, 1, -1, 1, 1, 5},
            {1, 0, 0, 0, -2, 0, 6},
            {0, 1, -1, -1, 1, -1, 5},
            {-1, 0, 1, 1, 0, -2, 4},
            {1, -1, -1, 1, 1, -1, 1}};
        for (int shape = 0; shape < 7; shape++) {
            for (int atClass = 0; atClass < 7; atClass++) {
                due("character(" + (12 + shape) + ", " + (12 + atClass) + ")",
                    x.character(12 + shape, 12 + atClass), of5[shape][atClass]);
            }
        }
        due("character(0, 0)", x.character(0, 0), 1);
        due("(4, 2, 1, 1) at the identity", x.character(55, 66), 90);
        due("(4, 2, 1, 1) at a cycle of 7", x.character(55, 46), -1);
        due("character(67, 45)", x.character(67, 45), 1000000001);
        due("character(0, -1)", x.character(0, -1), 1000000001);
        due("character(-1, 67)", x.character(-1, 67), 1000000001);
        due("character(44, 45)", x.character(44, 45), 1000000003);
        due("character(1, 0)", x.character(1, 0), 1000000003);
        Calls.refused(CHECK, x, 3, 0, 2, 0, 0);
    }

    private static void promise9Odds() {
        CharactersMultiplied x = new CharactersMultiplied();
        long[][] of8 = {{1, 22}, {1, 22}, {5, 22}, {4, 11}, {1, 11}, {2, 11}, {0, 1}};
        for (int kind = 0; kind < 7; kind++) {
            due("odds(8, " + kind + ", 0)", x.odds(8, kind, 0), of8[kind][0]);
            due("odds(8, " + kind + ", 1)", x.odds(8, kind, 1), of8[kind][1]);
        }
        due("odds(0, 3, 0)", x.odds(0, 3, 0), 0);
        due("odds(0, 3, 1)", x.odds(0, 3, 1), 1);
        due("odds(2, 3, 0)", x.odds(2, 3, 0), 1);
        due("odds(2, 3, 1)", x.odds(2, 3, 1), 1);
        due("odds(6, 6, 0)", x.odds(6, 6, 0), 1);
        due("odds(6, 6, 1)", x.odds(6, 6, 1), 11);
        due("odds(-1, 7, 2)", x.odds(-1, 7, 2), 4000000000000000004L);
        due("odds(9, 7, 2)", x.odds(9, 7, 2), 4000000000000000006L);
        due("odds(8, 7, 0)", x.odds(8, 7, 0), 4000000000000000002L);
        due("odds(8, -1, 0)", x.odds(8, -1, 0), 4000000000000000002L);
        due("odds(8, 0, 2)", x.odds(8, 0, 2), 4000000000000000002L);
        due("odds(8, 0, -1)", x.odds(8, 0, -1), 4000000000000000002L);
        Calls.refused(CHECK, x, 0, 4, 0, 1, 1);
    }
}

/** Promises 10 to 15. */
public final class NumbersTest {
    private static final Check CHECK = new Check("NumbersTest");

    public static void main(String[] args) {
        promise10Number();
        promise10WithTheModel();
        promise10OfAllSizes();
        promise11Product();
        promise12Greatest();
        promise13Grown();
        promise14Settled();
        promise15Lots();
        CHECK.end();
    }

    private static void due(String call, long got, long want) {
        CHECK.due(call, got, want);
    }

    private static void promise10Number() {
        CharactersMultiplied x = new CharactersMultiplied();
        due("number(0, 0, 0)", x.number(0, 0, 0), 1);
        due("number(5, 5, 4)", x.number(5, 5, 4), 1);
        due("number(5, 5, 5)", x.number(5, 5, 5), 1);
        due("number(5, 6, 5)", x.number(5, 6, 5), 1);
        due("number(6, 6, 6)", x.number(6, 6, 6), 0);
        due("number(6, 6, 4)", x.number(6, 6, 4), 1);
        due("number(24, 24, 24)", x.number(24, 24, 24), 5);
        due("number(24, 24, 22)", x.number(24, 24, 22), 4);
        due("number(22, 24, 24)", x.number(22, 24, 24), 4);
        due("number(24, 22, 24)", x.number(24, 22, 24), 4);
        due("number(45, 55, 55)", x.number(45, 55, 55), 1);
        due("number(66, 50, 60)", x.number(66, 50, 60), 1);
        due("number(67, 0, 0)", x.number(67, 0, 0), -1);
        due("number(0, -1, 1)", x.number(0, -1, 1), -1);
        due("number(0, 1, 67)", x.number(0, 1, 67), -1);
        due("number(1, 2, 2)", x.number(1, 2, 2), -3);
        due("number(2, 1, 2)", x.number(2, 1, 2), -3);
        due("number(2, 2, 1)", x.number(2, 2, 1), -3);
        Calls.refused(CHECK, x, 3, 0, 3, 0, 0);
    }

    private static void promise10WithTheModel() {
        for (int one = 0; one < 67; one++) {
            int first = Oracle.first(Oracle.size(one));
            int end = first + Oracle.many(Oracle.size(one));
            // One object serves 512 calls, and 22 times 22 are fewer.
            CharactersMultiplied x = new CharactersMultiplied();
            for (int two = first; two < end; two++) {
                for (int three = first; three < end; three++) {
                    due("number(" + one + ", " + two + ", " + three + ")",
                        x.number(one, two, three), Oracle.number(one, two, three));
                }
            }
        }
    }

    /** Numbers of all sizes on one object: none stands where another is kept. */
    private static void promise10OfAllSizes() {
        CharactersMultiplied x = new CharactersMultiplied();
        for (int turn = 0; turn < 4; turn++) {
            for (int i = 0; i <= 8; i++) {
                int size = turn % 2 == 0 ? i : 8 - i;
                int first = Oracle.first(size);
                int last = first + Oracle.many(size) - 1;
                due("first of " + size, x.number(first, first, first), 1);
                due("last of " + size, x.number(last, last, last), size < 2 ? 1 : 0);
                due("last, last, first of " + size, x.number(last, first, last), 1);
            }
        }
    }

    private static void promise11Product() {
        CharactersMultiplied x = new CharactersMultiplied();
        due("product(13, 13, -1)", x.product(13, 13, -1), 4);
        int[] parts = {12, 13, 14, 15};
        for (int i = 0; i < parts.length; i++) {
            due("product(13, 13, " + i + ")", x.product(13, 13, i), parts[i]);
        }
        due("product(13, 13, 4)", x.product(13, 13, 4), -9);
        due("product(13, 13, greatest)", x.product(13, 13, Integer.MAX_VALUE), -9);
        due("product(18, 14, -1)", x.product(18, 14, -1), 1);
        due("product(18, 14, 0)", x.product(18, 14, 0), 16);
        due("product(0, 0, 0)", x.product(0, 0, 0), 0);
        due("product(66, 66, 0)", x.product(66, 66, 0), 45);
        due("product(67, 0, -2)", x.product(67, 0, -2), -1);
        due("product(0, -1, -2)", x.product(0, -1, -2), -1);
        due("product(0, 1, -2)", x.product(0, 1, -2), -3);
        due("product(1, 1, -2)", x.product(1, 1, -2), -4);
        Calls.refused(CHECK, x, 2, 0, 1, 1, 0);
    }

    private static void promise12Greatest() {
        CharactersMultiplied x = new CharactersMultiplied();
        due("greatest(24, 24)", x.greatest(24, 24), 5);
        due("greatest(0, 0)", x.greatest(0, 0), 1);
        due("greatest(13, 13)", x.greatest(13, 13), 1);
        due("greatest(45, 55)", x.greatest(45, 55), 1);
        due("greatest(46, 55)", x.greatest(46, 55), 2);
        due("greatest(15, 15)", x.greatest(15, 15), 2);
        due("greatest(67, 0)", x.greatest(67, 0), -1);
        due("greatest(0, -1)", x.greatest(0, -1), -1);
        due("greatest(1, 2)", x.greatest(1, 2), -3);
        Calls.refused(CHECK, x, 2, 0, 1, 0, 0);
    }

    private static void promise13Grown() {
        CharactersMultiplied x = new CharactersMultiplied();
        due("grown(0, 0)", x.grown(0, 0), 0);
        due("grown(0, 1)", x.grown(0, 1), 1);
        due("grown(0, 8)", x.grown(0, 8), 45);
        due("grown(1, 1)", x.grown(1, 1), -9);
        due("grown(1, 2)", x.grown(1, 2), 3);
        due("grown(7, 8)", x.grown(7, 8), 52);
        due("grown(7, 7)", x.grown(7, 7), -9);
        due("grown(11, 5)", x.grown(11, 5), 18);
        due("grown(11, 4)", x.grown(11, 4), -9);
        due("grown(11, 0)", x.grown(11, 0), -9);
        due("grown(9, 8)", x.grown(9, 8), 54);
        due("grown(-1, -1)", x.grown(-1, -1), -1);
        due("grown(67, 9)", x.grown(67, 9), -1);
        due("grown(12, -1)", x.grown(12, -1), -4);
        due("grown(12, 9)", x.grown(12, 9), -6);
        due("grown(12, 8)", x.grown(12, 8), -3);
        due("grown(66, 0)", x.grown(66, 0), -3);
        Calls.refused(CHECK, x, 2, 0, 2, 1, 1);
    }

    private static void promise14Settled() {
        CharactersMultiplied x = new CharactersMultiplied();
        due("settled(0, 0, 0, 0)", x.settled(0, 0, 0, 0), 0);
        due("settled(0, 0, 0, 1)", x.settled(0, 0, 0, 1), 1);
        due("settled(1, 1, 0, 0)", x.settled(1, 1, 0, 0), 2);
        due("settled(1, 0, 0, 0)", x.settled(1, 0, 0, 0), 2);
        due("settled(1, 0, 0, 1)", x.settled(1, 0, 0, 1), 0);
        due("settled(1, 1, 1, 0)", x.settled(1, 1, 1, 0), 3);
        due("settled(1, 1, 2, 0)", x.settled(1, 1, 2, 0), 4);
        due("settled(7, 7, 7, 0)", x.settled(7, 7, 7, 0), 8);
        due("settled(11, 11, 0, 0)", x.settled(11, 11, 0, 0), 5);
        due("settled(-1, 0, 0, 2)", x.settled(-1, 0, 0, 2), -1);
        due("settled(0, 67, 0, 2)", x.settled(0, 67, 0, 2), -1);
        due("settled(0, 0, 67, 2)", x.settled(0, 0, 67, 2), -1);
        due("settled(12, 0, 0, 2)", x.settled(12, 0, 0, 2), -2);
        due("settled(0, 0, 0, -1)", x.settled(0, 0, 0, -1), -2);
        due("settled(12, 0, 0, 0)", x.settled(12, 0, 0, 0), -3);
        due("settled(0, 12, 0, 0)", x.settled(0, 12, 0, 0), -3);
        due("settled(0, 0, 12, 1)", x.settled(0, 0, 12, 1), -3);
        Calls.refused(CHECK, x, 3, 2, 3, 0, 0);
        settledWithTheModel();
    }

    private static void settledWithTheModel() {
        Model model = new Model();
        for (int one = 0; one < 12; one++) {
            for (int two = 0; two < 12; two++) {
                CharactersMultiplied x = new CharactersMultiplied();
                for (int three = 0; three < 12; three++) {
                    for (int what = 0; what < 2; what++) {
                        due("settled(" + one + ", " + two + ", " + three + ", " + what + ")",
                            x.settled(one, two, three, what), model.settled(one, two, three, what));
                    }
                }
            }
        }
    }

    private static void promise15Lots() {
        CharactersMultiplied x = new CharactersMultiplied();
        due("lots(1, 50, 0, 0)", x.lots(1, 50, 0, 0), 50);
        due("lots(1, 50, -1, 1)", x.lots(1, 50, -1, 1), 50);
        due("lots(1, 1, 5, 1)", x.lots(1, 1, 5, 1), 1);
        Model model = new Model();
        int[] seeds = {0, 1, -1, 7, 123456789, Integer.MIN_VALUE, Integer.MAX_VALUE};
        for (int seed : seeds) {
            for (int size = 1; size <= 8; size++) {
                for (int what = 0; what < 2; what++) {
                    due("lots(" + size + ", 50, " + seed + ", " + what + ")",
                        x.lots(size, 50, seed, what), model.lots(size, 50, seed, what));
                    due("lots(" + size + ", 3, " + seed + ", " + what + ")",
                        x.lots(size, 3, seed, what), model.lots(size, 3, seed, what));
                }
            }
        }
        due("lots(0, 51, 0, 2)", x.lots(0, 51, 0, 2), -4);
        due("lots(9, 0, 0, 2)", x.lots(9, 0, 0, 2), -4);
        due("lots(9, 1, 0, 2)", x.lots(9, 1, 0, 2), -6);
        due("lots(8, 51, 0, 2)", x.lots(8, 51, 0, 2), -6);
        due("lots(8, 50, 0, 2)", x.lots(8, 50, 0, 2), -2);
        due("lots(8, 50, 0, -1)", x.lots(8, 50, 0, -1), -2);
        Calls.refused(CHECK, x, 0, 2, 0, 2, 2);
    }
}

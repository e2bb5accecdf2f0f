/**
 * The boundary cases of kinds and of odds (the terms "KINDS of SHAPES", "ODDS", "Fractions", and
 * promises 2 and 9): each test stands under the words of the document that it holds to.
 */
public final class KindEdgesTest {
    private static final Check CHECK = new Check("KindEdgesTest");

    public static void main(String[] args) {
        line();
        column();
        two();
        corner();
        even();
        block();
        stairs();
        bits();
        oddsInLeastTerms();
        oddsOf0();
        oddsOf1();
        oddsRefused();
        CHECK.end();
    }

    private static void are(int kind, boolean held, int[]... shapes) {
        for (int[] rows : shapes) {
            CharactersMultiplied x = new CharactersMultiplied();
            Calls.list(x, 0, rows);
            boolean is = (x.of(x.shape(0), 5) >> kind & 1) == 1;
            CHECK.holds("kind " + kind + " of " + java.util.Arrays.toString(rows), is == held);
        }
    }

    private static int[] rows(int... rows) {
        return rows;
    }

    // "0 LINE: one row or none"
    private static void line() {
        are(0, true, rows(), rows(1), rows(2), rows(8));
        are(0, false, rows(1, 1), rows(7, 1), rows(1, 1, 1, 1, 1, 1, 1, 1));
    }

    // "1 COLUMN: each row is 1 (or none)"
    private static void column() {
        are(1, true, rows(), rows(1), rows(1, 1), rows(1, 1, 1, 1, 1, 1, 1, 1));
        are(1, false, rows(2), rows(2, 1), rows(2, 1, 1, 1, 1, 1, 1), rows(8));
    }

    // "2 TWO: two rows at most"
    private static void two() {
        are(2, true, rows(), rows(1), rows(8), rows(1, 1), rows(4, 4), rows(7, 1));
        are(2, false, rows(1, 1, 1), rows(6, 1, 1), rows(2, 2, 2, 2));
    }

    // "3 CORNER: some rows (one, too), each but the first is 1"
    private static void corner() {
        are(3, true, rows(1), rows(8), rows(1, 1), rows(2, 1), rows(1, 1, 1, 1, 1, 1, 1, 1), rows(5, 1, 1, 1));
        are(3, false, rows(), rows(2, 2), rows(3, 2), rows(2, 2, 1), rows(2, 2, 1, 1, 1, 1));
    }

    // "4 EVEN: as TURNED"
    private static void even() {
        are(4, true, rows(), rows(1), rows(2, 1), rows(2, 2), rows(3, 1, 1), rows(4, 2, 1, 1), rows(3, 3, 2));
        are(4, false, rows(2), rows(1, 1), rows(8), rows(2, 2, 1), rows(4, 2, 2), rows(5, 2, 1), rows(2, 2, 2, 2));
    }

    // "5 BLOCK: all rows are alike (or none)"
    private static void block() {
        are(5, true, rows(), rows(1), rows(8), rows(4, 4), rows(2, 2, 2), rows(1, 1, 1, 1, 1, 1, 1, 1));
        are(5, false, rows(2, 1), rows(3, 3, 2), rows(2, 2, 1), rows(3, 2, 2), rows(2, 1, 1));
    }

    // "6 STAIRS: each row is 1 less than the one ahead, the last is 1 (or none)"
    private static void stairs() {
        are(6, true, rows(), rows(1), rows(2, 1), rows(3, 2, 1));
        are(6, false, rows(2), rows(8), rows(3, 2), rows(4, 3), rows(3, 1), rows(1, 1), rows(2, 1, 1), rows(2, 2, 1));
        are(6, false, rows(4, 2, 1), rows(4, 3, 1), rows(3, 2, 1, 1), rows(3, 3, 2));
    }

    // Promise 2: "5 KINDS (bits)": all seven of SHAPE 1, all but CORNER of SHAPE 0, none of (4, 2, 1)
    private static void bits() {
        CharactersMultiplied x = new CharactersMultiplied();
        CHECK.due("kinds of ()", x.of(0, 5), 119);
        CHECK.due("kinds of (1)", x.of(1, 5), 127);
        CHECK.due("kinds of (4, 2, 1)", x.of(35, 5), 0);
        CHECK.due("kinds of (8)", x.of(45, 5), 45);
        CHECK.due("kinds of the column of 8", x.of(66, 5), 42);
    }

    // "Fractions are told in least terms", "how likely a SHAPE of a SIZE, any alike, is of a KIND"
    private static void oddsInLeastTerms() {
        for (int size = 0; size <= 8; size++) {
            CharactersMultiplied x = new CharactersMultiplied();
            int first = x.shapes(size, 0);
            int all = x.shapes(size, 1);
            for (int kind = 0; kind < 7; kind++) {
                int of = 0;
                for (int shape = first; shape < first + all; shape++) {
                    of += x.of(shape, 5) >> kind & 1;
                }
                long above = x.odds(size, kind, 0);
                long below = x.odds(size, kind, 1);
                String odds = "odds(" + size + ", " + kind + ")";
                CHECK.due(odds + ", crosswise", above * all, below * of);
                for (long divisor = 2; divisor <= 22; divisor++) {
                    CHECK.holds(odds + " by " + divisor, above % divisor != 0 || below % divisor != 0);
                }
            }
        }
    }

    // "0 as 0 by 1"
    private static void oddsOf0() {
        CharactersMultiplied x = new CharactersMultiplied();
        CHECK.due("CORNER of SIZE 0 above", x.odds(0, 3, 0), 0);
        CHECK.due("CORNER of SIZE 0 below", x.odds(0, 3, 1), 1);
        CHECK.due("EVEN of SIZE 2 above", x.odds(2, 4, 0), 0);
        CHECK.due("EVEN of SIZE 2 below", x.odds(2, 4, 1), 1);
        CHECK.due("STAIRS of SIZE 8 above", x.odds(8, 6, 0), 0);
        CHECK.due("STAIRS of SIZE 8 below", x.odds(8, 6, 1), 1);
    }

    // ODDS of a KIND that all are of: 1 by 1
    private static void oddsOf1() {
        CharactersMultiplied x = new CharactersMultiplied();
        for (int kind = 0; kind < 7; kind++) {
            CHECK.due("odds(1, " + kind + ", 0)", x.odds(1, kind, 0), 1);
            CHECK.due("odds(1, " + kind + ", 1)", x.odds(1, kind, 1), 1);
        }
        CHECK.due("TWO of SIZE 2 above", x.odds(2, 2, 0), 1);
        CHECK.due("TWO of SIZE 2 below", x.odds(2, 2, 1), 1);
    }

    // Promise 9: "part 0 above, 1 below the line. Refused far: -4; -6 8; -2 either."
    private static void oddsRefused() {
        CharactersMultiplied x = new CharactersMultiplied();
        CHECK.due("odds(8, 6, 1)", x.odds(8, 6, 1), 1);
        CHECK.due("odds(9, 6, 1)", x.odds(9, 6, 1), Calls.FAR + 6);
        CHECK.due("odds(-1, 6, 1)", x.odds(-1, 6, 1), Calls.FAR + 4);
        CHECK.due("odds(8, 7, 1)", x.odds(8, 7, 1), Calls.FAR + 2);
        CHECK.due("odds(8, -1, 1)", x.odds(8, -1, 1), Calls.FAR + 2);
        CHECK.due("odds(8, 6, 2)", x.odds(8, 6, 2), Calls.FAR + 2);
        CHECK.due("odds(8, 6, -1)", x.odds(8, 6, -1), Calls.FAR + 2);
        CHECK.due("odds(8, greatest, 0)", x.odds(8, Integer.MAX_VALUE, 0), Calls.FAR + 2);
        CHECK.due("odds(8, least, 0)", x.odds(8, Integer.MIN_VALUE, 0), Calls.FAR + 2);
    }
}

/** Promises 25 to 30. */
public final class ListsTest {
    private static final Check CHECK = new Check("ListsTest");

    public static void main(String[] args) {
        promise25List();
        promise26Put();
        promise27Look();
        promise28Lays();
        promise29Judge();
        promise30Which();
        CHECK.end();
    }

    private static void due(String call, long got, long want) {
        CHECK.due(call, got, want);
    }

    private static void promise25List() {
        CharactersMultiplied x = new CharactersMultiplied();
        due("list(0, 40)", x.list(0, 40), 1);
        due("look(0, 39)", x.look(0, 39), 0);
        x.put(0, 0, 5);
        x.put(0, 39, 5);
        due("shorter", x.list(0, 3), 1);
        due("look(0, 0)", x.look(0, 0), 0);
        due("look(0, 3)", x.look(0, 3), Calls.FAR + 13);
        due("longer", x.list(0, 40), 1);
        due("look(0, 39) anew", x.look(0, 39), 0);
        due("none", x.list(2, 0), 1);
        due("list(-1, 41)", x.list(-1, 41), -1);
        due("list(3, -1)", x.list(3, -1), -1);
        due("list(0, 41)", x.list(0, 41), -6);
        due("list(0, greatest)", x.list(0, Integer.MAX_VALUE), -6);
        due("list(1, -1)", x.list(1, -1), -14);
        due("list(1, least)", x.list(1, Integer.MIN_VALUE), -14);
        due("still missing", x.look(1, 0), Calls.FAR + 11);
        Calls.refused(CHECK, x, 2, 0, 0, 0, 2);
    }

    private static void promise26Put() {
        CharactersMultiplied x = new CharactersMultiplied();
        x.list(1, 2);
        x.list(2, 2);
        due("put(1, 0, least)", x.put(1, 0, Integer.MIN_VALUE), 1);
        due("put(1, 1, greatest)", x.put(1, 1, Integer.MAX_VALUE), 1);
        due("look(1, 0)", x.look(1, 0), Integer.MIN_VALUE);
        due("look(1, 1)", x.look(1, 1), Integer.MAX_VALUE);
        due("another list", x.look(2, 0), 0);
        due("put(1, 2, 0)", x.put(1, 2, 0), -13);
        due("put(1, -1, 0)", x.put(1, -1, 0), -13);
        due("put(0, -1, 0)", x.put(0, -1, 0), -11);
        due("put(-1, 0, 0)", x.put(-1, 0, 0), -1);
        due("put(3, 0, 0)", x.put(3, 0, 0), -1);
        Calls.refused(CHECK, x, 2, 0, 0, 0, 0);
    }

    private static void promise27Look() {
        CharactersMultiplied x = new CharactersMultiplied();
        Calls.list(x, 1, -1, -11, -13);
        due("look(1, 0)", x.look(1, 0), -1);
        due("look(1, 2)", x.look(1, 2), -13);
        due("look(1, 3)", x.look(1, 3), 4000000000000000013L);
        due("look(1, -1)", x.look(1, -1), 4000000000000000013L);
        due("look(0, 0)", x.look(0, 0), 4000000000000000011L);
        due("look(-1, 0)", x.look(-1, 0), 4000000000000000001L);
        due("look(3, -1)", x.look(3, -1), 4000000000000000001L);
        Calls.refused(CHECK, x, 2, 0, 0, 0, 0);
    }

    private static void looks(CharactersMultiplied x, int list, int... values) {
        for (int i = 0; i < values.length; i++) {
            due("look(" + list + ", " + i + ")", x.look(list, i), values[i]);
        }
    }

    private static void promise28Lays() {
        CharactersMultiplied x = new CharactersMultiplied();
        x.list(0, 9);
        due("lays(0, 2, 14)", x.lays(0, 2, 14), 7);
        looks(x, 0, 0, 0, 0, -1, 1, -1, 1, 1, 5);
        due("lays(0, 0, 0)", x.lays(0, 0, 0), 1);
        due("lays(0, 4, 10)", x.lays(0, 4, 10), 5);
        looks(x, 0, 1, 0, 0, -1, 1, 0, -1, -1, 3);
        due("lays(0, 3, 14)", x.lays(0, 3, 14), -13);
        due("lays(0, -1, 14)", x.lays(0, -1, 14), -13);
        due("lays(0, greatest, 14)", x.lays(0, Integer.MAX_VALUE, 14), -13);
        due("lays(0, least, 14)", x.lays(0, Integer.MIN_VALUE, 14), -13);
        due("lays(0, 0, 45)", x.lays(0, 0, 45), -13);
        looks(x, 0, 1, 0, 0, -1, 1, 0, -1, -1, 3);
        due("lays(1, 0, 0)", x.lays(1, 0, 0), -11);
        due("lays(1, 0, 67)", x.lays(1, 0, 67), -1);
        due("lays(1, 0, -1)", x.lays(1, 0, -1), -1);
        due("lays(3, 0, 0)", x.lays(3, 0, 0), -1);
        due("lays(-1, 0, 0)", x.lays(-1, 0, 0), -1);
        x.list(2, 0);
        due("lays(2, 0, 0)", x.lays(2, 0, 0), -13);
        x.list(2, 40);
        due("lays(2, 18, 55)", x.lays(2, 18, 55), 22);
        due("look(2, 39)", x.look(2, 39), 90);
        Calls.refused(CHECK, x, 4, 0, 0, 0, 0);
    }

    private static void promise29Judge() {
        CharactersMultiplied x = new CharactersMultiplied();
        Calls.list(x, 0, -1, 0, -1, 1, 3);
        due("judge(0, 8)", x.judge(0, 8), -9);
        due("judge(0, 10)", x.judge(0, 10), 0);
        x.put(0, 4, 2);
        due("at the last place", x.judge(0, 8), 4);
        Calls.list(x, 0, -1, 0, -1, 1, 3, 0);
        due("a class too many", x.judge(0, 8), 5);
        Calls.list(x, 0, -1, 0);
        due("fewer", x.judge(0, 8), -9);
        x.list(0, 0);
        due("none", x.judge(0, 66), -9);
        Calls.list(x, 0, 1, 1);
        due("judge(0, 0)", x.judge(0, 0), 1);
        due("judge(1, 0)", x.judge(1, 0), -11);
        due("judge(1, 67)", x.judge(1, 67), -1);
        due("judge(1, -1)", x.judge(1, -1), -1);
        due("judge(-1, 0)", x.judge(-1, 0), -1);
        due("judge(3, 0)", x.judge(3, 0), -1);
        Calls.refused(CHECK, x, 4, 0, 0, 0, 0);
    }

    private static void promise30Which() {
        CharactersMultiplied x = new CharactersMultiplied();
        Calls.list(x, 0, -1);
        due("-1 in 5", x.which(0, 5, 0), 2);
        due("the least", x.which(0, 5, 1), 13);
        Calls.list(x, 0, -1, 0, 1);
        due("-1 0 1 in 5", x.which(0, 5, 0), 1);
        due("the only one", x.which(0, 5, 1), 17);
        Calls.list(x, 0, 4);
        due("4 in 5", x.which(0, 5, 0), 0);
        due("none", x.which(0, 5, 1), -9);
        x.list(0, 0);
        due("all of 8", x.which(0, 8, 0), 22);
        due("the first of 8", x.which(0, 8, 1), 45);
        due("all of 0", x.which(0, 0, 0), 1);
        Calls.list(x, 0, 1, 1);
        due("longer than there are classes", x.which(0, 1, 0), 0);
        due("none is", x.which(0, 1, 1), -9);
        due("just as long", x.which(0, 2, 1), 2);
        due("which(-1, -1, 2)", x.which(-1, -1, 2), -1);
        due("which(3, 9, 2)", x.which(3, 9, 2), -1);
        due("which(1, -1, 2)", x.which(1, -1, 2), -4);
        due("which(1, 9, 2)", x.which(1, 9, 2), -6);
        due("which(1, 8, 2)", x.which(1, 8, 2), -2);
        due("which(1, 8, -1)", x.which(1, 8, -1), -2);
        due("which(1, 8, 0)", x.which(1, 8, 0), -11);
        Calls.refused(CHECK, x, 2, 2, 0, 1, 1);
    }
}

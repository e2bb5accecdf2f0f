import java.util.ArrayList;
import java.util.List;

/**
 * REFUSALS of each call, promise by promise: "the call answers the number, the first that fits in the
 * order in which it tells them; nothing changes but how many there were", which are told far, and which
 * are not counted. Each call is made on an object of its own; a twin that was not asked tells how all
 * else must be behind it.
 */
public final class RefusalEdgesTest {
    private static final Check CHECK = new Check("RefusalEdgesTest");
    private static final int LEAST = Integer.MIN_VALUE;
    private static final int GREATEST = Integer.MAX_VALUE;
    private static final long FAR = 4000000000000000000L;
    private static final int NEAR = 1000000000;

    /** How an object is ahead of the call. */
    private enum State { NEW, RICH, SIZE_0, FULL }

    private interface Call {
        long on(CharactersMultiplied x);
    }

    public static void main(String[] args) {
        of();
        shape();
        shapes();
        hook();
        rims();
        height();
        character();
        odds();
        number();
        product();
        greatest();
        grown();
        settled();
        lots();
        letter();
        reads();
        clear();
        sum();
        coefficient();
        makes();
        changed();
        value();
        inner();
        list();
        put();
        look();
        lays();
        judge();
        which();
        undoAndOn();
        count();
        CHECK.end();
    }

    /** Four sums (one missing, one at the end of its range), three lists (one missing), letters, image, undos. */
    private static CharactersMultiplied made(State state) {
        CharactersMultiplied x = new CharactersMultiplied();
        if (state == State.NEW) {
            return x;
        }
        Calls.makes(x, 1, 3, 2, 1000000, 1);
        Calls.reads(x, 0, "5[21]");
        x.image();
        Calls.reads(x, 0, "2[21]-[3]");
        Calls.reads(x, 3, state == State.SIZE_0 ? "4[]" : "4[8]");
        x.list(0, 40);
        x.put(0, 0, 3);
        x.put(0, 39, -7);
        Calls.list(x, 1, 2, 1);
        for (int i = 0; i < (state == State.FULL ? 72 : 2); i++) {
            x.letter(i == 0 ? '[' : '1');
        }
        return x;
    }

    private static long[] refusals(CharactersMultiplied x) {
        long[] counts = new long[7];
        for (int i = 1; i < counts.length; i++) {
            counts[i] = x.count(10 + i);
        }
        return counts;
    }

    private static void tellSums(CharactersMultiplied x, List<Long> told) {
        for (int sum = 0; sum < 4; sum++) {
            for (int what = 0; what < 3; what++) {
                told.add((long) x.sum(sum, what));
            }
            told.add(x.inner(sum, sum));
        }
    }

    /** Everything that can be learnt of an object: its last calls. */
    private static List<Long> all(CharactersMultiplied x) {
        List<Long> told = new ArrayList<>();
        for (int what = 0; what < 4; what++) {
            told.add((long) x.count(what));
        }
        tellSums(x, told);
        int[] places = {0, 1, 2, 38, 39, 40};
        for (int list = 0; list < 3; list++) {
            told.add((long) x.shape(list));
            for (int i : places) {
                told.add(x.look(list, i));
            }
        }
        for (int left = x.undo(); left >= 0; left = x.undo()) {
            told.add((long) left);
            tellSums(x, told);
        }
        x.letter(']');
        told.add((long) x.reads(2));
        tellSums(x, told);
        told.add((long) x.on());
        tellSums(x, told);
        return told;
    }

    /** The call answers this; the refusal of this number (0: none) is counted once, and nothing else changes. */
    private static void refuses(State state, String name, long due, int counted, Call call) {
        CharactersMultiplied x = made(state);
        CharactersMultiplied twin = made(state);
        CHECK.due(name + " of " + state, call.on(x), due);
        long[] counts = refusals(x);
        long[] before = refusals(twin);
        for (int i = 1; i < counts.length; i++) {
            CHECK.due("count(" + (10 + i) + ") behind " + name, counts[i] - before[i], i == counted ? 1 : 0);
        }
        CHECK.holds("nothing changes by " + name + " of " + state, all(x).equals(all(twin)));
    }

    /** The call is refused with a number that is counted. */
    private static void counted(String name, int due, Call call) {
        refuses(State.RICH, name, due, -due, call);
    }

    /** The same, but told far, as an int or as a long. */
    private static void far(String name, long from, int refusal, Call call) {
        refuses(State.RICH, name, from - refusal, -refusal, call);
    }

    /** The call answers a number below 0, or far, that is not counted. */
    private static void uncounted(String name, long due, Call call) {
        refuses(State.RICH, name, due, 0, call);
    }

    // Promise 2: "-1; -2."
    private static void of() {
        counted("of(-1, 0)", -1, x -> x.of(-1, 0));
        counted("of(67, 0)", -1, x -> x.of(67, 0));
        counted("of(67, 6)", -1, x -> x.of(67, 6));
        counted("of(-1, -1)", -1, x -> x.of(-1, -1));
        counted("of(0, -1)", -2, x -> x.of(0, -1));
        counted("of(0, 6)", -2, x -> x.of(0, 6));
        counted("of(66, 9)", -2, x -> x.of(66, 9));
        counted("of(66, 18)", -2, x -> x.of(66, 18));
        counted("of(66, least)", -2, x -> x.of(66, LEAST));
    }

    // Promise 3: "-1; -11."
    private static void shape() {
        counted("shape(-1)", -1, x -> x.shape(-1));
        counted("shape(3)", -1, x -> x.shape(3));
        uncounted("shape(2)", -11, x -> x.shape(2));
        uncounted("shape(0)", -9, x -> x.shape(0));
    }

    // Promise 4: "-4; -6 8; -2."
    private static void shapes() {
        counted("shapes(-1, 0)", -4, x -> x.shapes(-1, 0));
        counted("shapes(-1, 2)", -4, x -> x.shapes(-1, 2));
        counted("shapes(9, 0)", -6, x -> x.shapes(9, 0));
        counted("shapes(9, 2)", -6, x -> x.shapes(9, 2));
        counted("shapes(0, 2)", -2, x -> x.shapes(0, 2));
        counted("shapes(8, -1)", -2, x -> x.shapes(8, -1));
    }

    // Promise 5: "-1 (SHAPE; CELL)."
    private static void hook() {
        counted("hook(-1, 0, 0)", -1, x -> x.hook(-1, 0, 0));
        counted("hook(67, -1, -1)", -1, x -> x.hook(67, -1, -1));
        counted("hook(0, 0, 0)", -1, x -> x.hook(0, 0, 0));
        counted("hook(5, 0, 2)", -1, x -> x.hook(5, 0, 2));
        counted("hook(5, 1, 1)", -1, x -> x.hook(5, 1, 1));
        counted("hook(5, 2, 0)", -1, x -> x.hook(5, 2, 0));
        counted("hook(5, -1, 0)", -1, x -> x.hook(5, -1, 0));
        counted("hook(5, 0, -1)", -1, x -> x.hook(5, 0, -1));
        counted("hook(66, 8, 0)", -1, x -> x.hook(66, 8, 0));
        counted("hook(45, 0, 8)", -1, x -> x.hook(45, 0, 8));
        counted("hook(5, least, greatest)", -1, x -> x.hook(5, LEAST, GREATEST));
    }

    // Promise 6: "-9 there are not so many. -1; -4 (k 1, i -1); -6 k 8."
    private static void rims() {
        counted("rims(67, 0, -2)", -1, x -> x.rims(67, 0, -2));
        counted("rims(-1, 9, 0)", -1, x -> x.rims(-1, 9, 0));
        counted("rims(5, 0, -1)", -4, x -> x.rims(5, 0, -1));
        counted("rims(5, 1, -2)", -4, x -> x.rims(5, 1, -2));
        counted("rims(5, 0, -2)", -4, x -> x.rims(5, 0, -2));
        counted("rims(5, 9, -2)", -4, x -> x.rims(5, 9, -2));
        counted("rims(5, 9, -1)", -6, x -> x.rims(5, 9, -1));
        counted("rims(5, 9, 0)", -6, x -> x.rims(5, 9, 0));
        uncounted("rims(5, 1, 2)", -9, x -> x.rims(5, 1, 2));
        uncounted("rims(5, 2, 0)", -9, x -> x.rims(5, 2, 0));
    }

    // Promise 7: "-9 there are not so many. -1; -4 (k 1, i); -6 k 8."
    private static void height() {
        counted("height(67, 0, -1)", -1, x -> x.height(67, 0, -1));
        counted("height(-1, 9, 0)", -1, x -> x.height(-1, 9, 0));
        counted("height(5, 0, 0)", -4, x -> x.height(5, 0, 0));
        counted("height(5, 1, -1)", -4, x -> x.height(5, 1, -1));
        counted("height(5, 9, -1)", -4, x -> x.height(5, 9, -1));
        counted("height(5, 9, 0)", -6, x -> x.height(5, 9, 0));
        uncounted("height(5, 1, 2)", -9, x -> x.height(5, 1, 2));
    }

    // Promise 8: "Refused far: -1 either; -3 unlike SIZES."
    private static void character() {
        far("character(67, 0)", NEAR, -1, x -> x.character(67, 0));
        far("character(0, 67)", NEAR, -1, x -> x.character(0, 67));
        far("character(-1, -1)", NEAR, -1, x -> x.character(-1, -1));
        far("character(0, 1)", NEAR, -3, x -> x.character(0, 1));
        far("character(45, 44)", NEAR, -3, x -> x.character(45, 44));
        refuses(State.RICH, "character, -1 as it is written", 1000000001, 1, x -> x.character(-1, 0));
    }

    // Promise 9: "Refused far: -4; -6 8; -2 either."
    private static void odds() {
        far("odds(-1, 0, 0)", FAR, -4, x -> x.odds(-1, 0, 0));
        far("odds(-1, 7, 2)", FAR, -4, x -> x.odds(-1, 7, 2));
        far("odds(9, 0, 0)", FAR, -6, x -> x.odds(9, 0, 0));
        far("odds(9, 7, 2)", FAR, -6, x -> x.odds(9, 7, 2));
        far("odds(8, 7, 0)", FAR, -2, x -> x.odds(8, 7, 0));
        far("odds(8, -1, 0)", FAR, -2, x -> x.odds(8, -1, 0));
        far("odds(8, 0, 2)", FAR, -2, x -> x.odds(8, 0, 2));
        far("odds(8, 0, -1)", FAR, -2, x -> x.odds(8, 0, -1));
        far("odds(8, 7, 2)", FAR, -2, x -> x.odds(8, 7, 2));
        refuses(State.RICH, "odds, -4 as it is written", 4000000000000000004L, 4, x -> x.odds(-1, 0, 0));
    }

    // Promise 10: "-1 any; -3 unlike SIZES."
    private static void number() {
        counted("number(67, 0, 0)", -1, x -> x.number(67, 0, 0));
        counted("number(0, 67, 1)", -1, x -> x.number(0, 67, 1));
        counted("number(0, 1, -1)", -1, x -> x.number(0, 1, -1));
        counted("number(-1, -1, -1)", -1, x -> x.number(-1, -1, -1));
        counted("number(1, 0, 0)", -3, x -> x.number(1, 0, 0));
        counted("number(0, 1, 0)", -3, x -> x.number(0, 1, 0));
        counted("number(0, 0, 1)", -3, x -> x.number(0, 0, 1));
    }

    // Promise 11: "-1 either; -3 unlike SIZES; -4 below -1."
    private static void product() {
        counted("product(67, 0, -2)", -1, x -> x.product(67, 0, -2));
        counted("product(0, -1, -2)", -1, x -> x.product(0, -1, -2));
        counted("product(0, 1, -2)", -3, x -> x.product(0, 1, -2));
        counted("product(0, 1, -1)", -3, x -> x.product(0, 1, -1));
        counted("product(0, 0, -2)", -4, x -> x.product(0, 0, -2));
        uncounted("product(0, 0, 1)", -9, x -> x.product(0, 0, 1));
    }

    // Promise 12: "-1 either; -3 unlike SIZES."
    private static void greatest() {
        counted("greatest(67, 0)", -1, x -> x.greatest(67, 0));
        counted("greatest(1, -1)", -1, x -> x.greatest(1, -1));
        counted("greatest(0, 1)", -3, x -> x.greatest(0, 1));
    }

    // Promise 13: "-9 it can't be. -1; -4 n; -6 8; -3 its SIZE is above 4."
    private static void grown() {
        counted("grown(67, -1)", -1, x -> x.grown(67, -1));
        counted("grown(-1, 9)", -1, x -> x.grown(-1, 9));
        counted("grown(12, -1)", -4, x -> x.grown(12, -1));
        counted("grown(12, 9)", -6, x -> x.grown(12, 9));
        counted("grown(12, 0)", -3, x -> x.grown(12, 0));
        counted("grown(12, 8)", -3, x -> x.grown(12, 8));
        uncounted("grown(11, 4)", -9, x -> x.grown(11, 4));
    }

    // Promise 14: "-1 any; -2; -3 a SIZE is above 4."
    private static void settled() {
        counted("settled(67, 12, 12, 2)", -1, x -> x.settled(67, 12, 12, 2));
        counted("settled(12, -1, 12, 2)", -1, x -> x.settled(12, -1, 12, 2));
        counted("settled(12, 12, 67, 2)", -1, x -> x.settled(12, 12, 67, 2));
        counted("settled(12, 0, 0, 2)", -2, x -> x.settled(12, 0, 0, 2));
        counted("settled(0, 0, 0, -1)", -2, x -> x.settled(0, 0, 0, -1));
        counted("settled(12, 0, 0, 0)", -3, x -> x.settled(12, 0, 0, 0));
        counted("settled(0, 12, 0, 1)", -3, x -> x.settled(0, 12, 0, 1));
        counted("settled(0, 0, 12, 1)", -3, x -> x.settled(0, 0, 12, 1));
    }

    // Promise 15: "-4 (size 1; n 1); -6 (8; 50); -2."
    private static void lots() {
        counted("lots(0, 1, 0, 0)", -4, x -> x.lots(0, 1, 0, 0));
        counted("lots(1, 0, 0, 0)", -4, x -> x.lots(1, 0, 0, 0));
        counted("lots(0, 51, 0, 2)", -4, x -> x.lots(0, 51, 0, 2));
        counted("lots(9, 0, 0, 2)", -4, x -> x.lots(9, 0, 0, 2));
        counted("lots(9, 1, 0, 2)", -6, x -> x.lots(9, 1, 0, 2));
        counted("lots(1, 51, 0, 2)", -6, x -> x.lots(1, 51, 0, 2));
        counted("lots(9, 51, 0, 0)", -6, x -> x.lots(9, 51, 0, 0));
        counted("lots(8, 50, 0, 2)", -2, x -> x.lots(8, 50, 0, 2));
        counted("lots(1, 1, 0, -1)", -2, x -> x.lots(1, 1, 0, -1));
    }

    // Promise 16: "-4; -6 (255; 72, too)."
    private static void letter() {
        counted("letter(-1)", -4, x -> x.letter(-1));
        counted("letter(256)", -6, x -> x.letter(256));
        refuses(State.FULL, "letter(-1)", -4, 4, x -> x.letter(-1));
        refuses(State.FULL, "letter(256)", -6, 6, x -> x.letter(256));
        refuses(State.FULL, "letter(0)", -6, 6, x -> x.letter(0));
    }

    // Promise 17: "the FAULT (not counted). -1 (the letters stay)."
    private static void reads() {
        counted("reads(-1)", -1, x -> x.reads(-1));
        counted("reads(4)", -1, x -> x.reads(4));
        refuses(State.FULL, "reads(4)", -1, 1, x -> x.reads(4));
        refuses(State.NEW, "reads(4)", -1, 1, x -> x.reads(4));
        refuses(State.NEW, "reads(0)", -1000, 0, x -> x.reads(0));
    }

    // Promise 18: "-1."
    private static void clear() {
        counted("clear(-1)", -1, x -> x.clear(-1));
        counted("clear(4)", -1, x -> x.clear(4));
    }

    // Promise 19: "-1; -2; -11.", "2 the first of them (-9)"
    private static void sum() {
        counted("sum(4, 3)", -1, x -> x.sum(4, 3));
        counted("sum(-1, 0)", -1, x -> x.sum(-1, 0));
        counted("sum(2, 3)", -2, x -> x.sum(2, 3));
        counted("sum(2, -1)", -2, x -> x.sum(2, -1));
        uncounted("sum(2, 0)", -11, x -> x.sum(2, 0));
        uncounted("sum(2, 2)", -11, x -> x.sum(2, 2));
    }

    // Promise 20: "Refused far: -1 either; -11."
    private static void coefficient() {
        far("coefficient(4, 0)", NEAR, -1, x -> x.coefficient(4, 0));
        far("coefficient(2, 67)", NEAR, -1, x -> x.coefficient(2, 67));
        far("coefficient(0, -1)", NEAR, -1, x -> x.coefficient(0, -1));
        far("coefficient(-1, 67)", NEAR, -1, x -> x.coefficient(-1, 67));
        uncounted("coefficient(2, 0)", 1000000011, x -> x.coefficient(2, 0));
    }

    // Promise 21: "-1 any; -2; -11 either; -3 unlike SIZES; -6 a COEFFICIENT out of range."
    private static void makes() {
        counted("makes(4, 2, 0, 3)", -1, x -> x.makes(4, 2, 0, 3));
        counted("makes(2, -1, 2, 3)", -1, x -> x.makes(2, -1, 2, 3));
        counted("makes(2, 2, 4, 3)", -1, x -> x.makes(2, 2, 4, 3));
        counted("makes(2, 2, 0, 3)", -2, x -> x.makes(2, 2, 0, 3));
        counted("makes(2, 0, 1, -1)", -2, x -> x.makes(2, 0, 1, -1));
        for (int what = 0; what <= 2; what++) {
            int w = what;
            uncounted("makes(0, 2, 1, " + w + ")", -11, x -> x.makes(0, 2, 1, w));
            uncounted("makes(0, 1, 2, " + w + ")", -11, x -> x.makes(0, 1, 2, w));
            uncounted("makes(0, 2, 2, " + w + ")", -11, x -> x.makes(0, 2, 2, w));
            counted("makes(2, 0, 1, " + w + ")", -3, x -> x.makes(2, 0, 1, w));
            counted("makes(0, 1, 3, " + w + ")", -3, x -> x.makes(0, 1, 3, w));
        }
        counted("makes(2, 1, 1, 0)", -6, x -> x.makes(2, 1, 1, 0));
        counted("makes(0, 1, 1, 2)", -6, x -> x.makes(0, 1, 1, 2));
        counted("makes(1, 1, 1, 2)", -6, x -> x.makes(1, 1, 1, 2));
    }

    // Promise 22: "-1; -2; -11; -3 its SIZE; -6 a COEFFICIENT out of range."
    private static void changed() {
        counted("changed(4, 3)", -1, x -> x.changed(4, 3));
        counted("changed(-1, 0)", -1, x -> x.changed(-1, 0));
        counted("changed(2, 3)", -2, x -> x.changed(2, 3));
        counted("changed(3, -1)", -2, x -> x.changed(3, -1));
        for (int what = 0; what <= 2; what++) {
            int w = what;
            uncounted("changed(2, " + w + ")", -11, x -> x.changed(2, w));
        }
        counted("changed(3, 2) of SIZE 8", -3, x -> x.changed(3, 2));
        refuses(State.SIZE_0, "changed(3, 1)", -3, 3, x -> x.changed(3, 1));
        counted("changed(1, 1)", -6, x -> x.changed(1, 1));
        counted("changed(1, 2)", -6, x -> x.changed(1, 2));
    }

    // Promise 23: "Refused far: -1 either; -11; -3 another SIZE."
    private static void value() {
        far("value(4, 2)", FAR, -1, x -> x.value(4, 2));
        far("value(2, 67)", FAR, -1, x -> x.value(2, 67));
        far("value(-1, -1)", FAR, -1, x -> x.value(-1, -1));
        uncounted("value(2, 2)", 4000000000000000011L, x -> x.value(2, 2));
        far("value(1, 1)", FAR, -3, x -> x.value(1, 1));
        far("value(1, 4)", FAR, -3, x -> x.value(1, 4));
    }

    // Promise 24: "Refused far: -1 either; -11 either; -3 unlike SIZES."
    private static void inner() {
        far("inner(4, 2)", FAR, -1, x -> x.inner(4, 2));
        far("inner(2, -1)", FAR, -1, x -> x.inner(2, -1));
        uncounted("inner(2, 0)", 4000000000000000011L, x -> x.inner(2, 0));
        uncounted("inner(0, 2)", 4000000000000000011L, x -> x.inner(0, 2));
        uncounted("inner(2, 2)", 4000000000000000011L, x -> x.inner(2, 2));
        far("inner(0, 1)", FAR, -3, x -> x.inner(0, 1));
        refuses(State.SIZE_0, "inner(0, 3)", FAR + 3, 3, x -> x.inner(0, 3));
    }

    // Promise 25: "-1; -6 40; -14."
    private static void list() {
        counted("list(-1, 41)", -1, x -> x.list(-1, 41));
        counted("list(3, -1)", -1, x -> x.list(3, -1));
        counted("list(0, 41)", -6, x -> x.list(0, 41));
        counted("list(2, greatest)", -6, x -> x.list(2, GREATEST));
        uncounted("list(0, -1)", -14, x -> x.list(0, -1));
        uncounted("list(2, least)", -14, x -> x.list(2, LEAST));
    }

    // Promise 26: "-1; -11; -13."
    private static void put() {
        counted("put(3, -1, 0)", -1, x -> x.put(3, -1, 0));
        counted("put(-1, 0, 0)", -1, x -> x.put(-1, 0, 0));
        uncounted("put(2, -1, 0)", -11, x -> x.put(2, -1, 0));
        uncounted("put(2, 0, 0)", -11, x -> x.put(2, 0, 0));
        uncounted("put(1, -1, 0)", -13, x -> x.put(1, -1, 0));
        uncounted("put(1, 2, 0)", -13, x -> x.put(1, 2, 0));
        uncounted("put(0, 40, 0)", -13, x -> x.put(0, 40, 0));
    }

    // Promise 27: "Refused far: -1; -11; -13."
    private static void look() {
        far("look(3, -1)", FAR, -1, x -> x.look(3, -1));
        far("look(-1, 0)", FAR, -1, x -> x.look(-1, 0));
        uncounted("look(2, -1)", 4000000000000000011L, x -> x.look(2, -1));
        uncounted("look(1, -1)", 4000000000000000013L, x -> x.look(1, -1));
        uncounted("look(1, 2)", 4000000000000000013L, x -> x.look(1, 2));
        uncounted("look(0, 40)", 4000000000000000013L, x -> x.look(0, 40));
    }

    // Promise 28: "-1 either; -11; -13 not all have a place (none is laid)."
    private static void lays() {
        counted("lays(3, 0, 67)", -1, x -> x.lays(3, 0, 67));
        counted("lays(-1, -1, 0)", -1, x -> x.lays(-1, -1, 0));
        counted("lays(2, -1, 67)", -1, x -> x.lays(2, -1, 67));
        counted("lays(0, 0, -1)", -1, x -> x.lays(0, 0, -1));
        uncounted("lays(2, -1, 0)", -11, x -> x.lays(2, -1, 0));
        uncounted("lays(1, -1, 0)", -13, x -> x.lays(1, -1, 0));
        uncounted("lays(1, 0, 4)", -13, x -> x.lays(1, 0, 4));
        uncounted("lays(1, 1, 2)", -13, x -> x.lays(1, 1, 2));
        uncounted("lays(0, 19, 45)", -13, x -> x.lays(0, 19, 45));
    }

    // Promise 29: "JUDGED; -9. -1 either; -11."
    private static void judge() {
        counted("judge(3, 67)", -1, x -> x.judge(3, 67));
        counted("judge(-1, 0)", -1, x -> x.judge(-1, 0));
        counted("judge(2, 67)", -1, x -> x.judge(2, 67));
        counted("judge(0, -1)", -1, x -> x.judge(0, -1));
        uncounted("judge(2, 0)", -11, x -> x.judge(2, 0));
    }

    // Promise 30: "-1; -4; -6 8; -2; -11."
    private static void which() {
        counted("which(3, -1, 2)", -1, x -> x.which(3, -1, 2));
        counted("which(-1, 9, 2)", -1, x -> x.which(-1, 9, 2));
        counted("which(2, -1, 2)", -4, x -> x.which(2, -1, 2));
        counted("which(2, 9, 2)", -6, x -> x.which(2, 9, 2));
        counted("which(2, 8, 2)", -2, x -> x.which(2, 8, 2));
        counted("which(2, 0, -1)", -2, x -> x.which(2, 0, -1));
        uncounted("which(2, 8, 0)", -11, x -> x.which(2, 8, 0));
        uncounted("which(2, 0, 1)", -11, x -> x.which(2, 0, 1));
        uncounted("which(1, 8, 1)", -9, x -> x.which(1, 8, 1));
    }

    // Promises 31, 33: "-3 there is none.", "-3 there is no IMAGE."
    private static void undoAndOn() {
        refuses(State.NEW, "undo()", -3, 3, x -> x.undo());
        refuses(State.NEW, "on()", -3, 3, x -> x.on());
    }

    // Promise 34: "-9 for another what."
    private static void count() {
        int[] others = {-1, 4, 10, 17, LEAST, GREATEST};
        for (int what : others) {
            uncounted("count(" + what + ")", -9, x -> x.count(what));
        }
    }
}

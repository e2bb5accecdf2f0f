import java.math.BigInteger;
import java.util.ArrayList;
import java.util.Arrays;
import java.util.HashSet;
import java.util.List;
import java.util.Set;

/**
 * The terms of the document, worked out by other ways than the program's: tableaux counted
 * instead of hooks, orders counted one by one, rims by beads, characters out of the counts of
 * how cycles fill rows.
 */
final class Oracle {
    static final int MOST = 8;
    static final List<int[]> SHAPES = allShapes();
    private static final long[] ORDERS = countOrders();
    private static final long[][] CHARACTERS = allCharacters();

    private Oracle() {
    }

    private static List<int[]> allShapes() {
        List<int[]> all = new ArrayList<>();
        for (int size = 0; size <= MOST; size++) {
            List<int[]> some = new ArrayList<>();
            // Every way to cut a row of cells into pieces; those that fall are the shapes.
            for (int cuts = 0; cuts < 1 << Math.max(0, size - 1); cuts++) {
                int[] pieces = pieces(size, cuts);
                if (falls(pieces)) {
                    some.add(pieces);
                }
            }
            some.sort((a, b) -> -Arrays.compare(a, b));
            all.addAll(some);
        }
        return all;
    }

    private static int[] pieces(int size, int cuts) {
        List<Integer> pieces = new ArrayList<>();
        int piece = 0;
        for (int cell = 0; cell < size; cell++) {
            piece++;
            if (cell == size - 1 || (cuts >> cell & 1) == 1) {
                pieces.add(piece);
                piece = 0;
            }
        }
        return pieces.stream().mapToInt(Integer::intValue).toArray();
    }

    static boolean falls(int[] rows) {
        for (int i = 0; i < rows.length; i++) {
            if (rows[i] < 1 || i > 0 && rows[i] > rows[i - 1]) {
                return false;
            }
        }
        return true;
    }

    /** The number of the shape with these rows; -1: there is none. */
    static int find(int... rows) {
        for (int i = 0; i < SHAPES.size(); i++) {
            if (Arrays.equals(SHAPES.get(i), rows)) {
                return i;
            }
        }
        return -1;
    }

    static int size(int shape) {
        return Arrays.stream(SHAPES.get(shape)).sum();
    }

    static int first(int size) {
        int shape = 0;
        while (size(shape) < size) {
            shape++;
        }
        return shape;
    }

    static int many(int size) {
        int many = 0;
        for (int shape = 0; shape < SHAPES.size(); shape++) {
            if (size(shape) == size) {
                many++;
            }
        }
        return many;
    }

    private static Set<List<Integer>> cells(int shape) {
        Set<List<Integer>> cells = new HashSet<>();
        int[] rows = SHAPES.get(shape);
        for (int r = 0; r < rows.length; r++) {
            for (int c = 0; c < rows[r]; c++) {
                cells.add(List.of(r, c));
            }
        }
        return cells;
    }

    static int turned(int shape) {
        Set<List<Integer>> cells = cells(shape);
        for (int other = 0; other < SHAPES.size(); other++) {
            Set<List<Integer>> mirrored = new HashSet<>();
            for (List<Integer> cell : cells(other)) {
                mirrored.add(List.of(cell.get(1), cell.get(0)));
            }
            if (mirrored.equals(cells)) {
                return other;
            }
        }
        return -1;
    }

    /** -1: there is no such cell. */
    static int hook(int shape, int r, int c) {
        Set<List<Integer>> cells = cells(shape);
        if (!cells.contains(List.of(r, c))) {
            return -1;
        }
        int hook = 0;
        for (List<Integer> cell : cells) {
            boolean right = cell.get(0) == r && cell.get(1) >= c;
            boolean below = cell.get(1) == c && cell.get(0) > r;
            hook += right || below ? 1 : 0;
        }
        return hook;
    }

    /** How many ways lead from no cells to the shape, one cell after the other. */
    static long dimension(int shape) {
        int[] rows = SHAPES.get(shape);
        if (rows.length == 0) {
            return 1;
        }
        long ways = 0;
        for (int r = 0; r < rows.length; r++) {
            int[] less = rows.clone();
            less[r]--;
            int left = find(less[r] == 0 ? Arrays.copyOf(less, rows.length - 1) : less);
            ways += left < 0 ? 0 : dimension(left);
        }
        return ways;
    }

    private static long[] countOrders() {
        long[] counts = new long[SHAPES.size()];
        for (int size = 0; size <= MOST; size++) {
            countOrders(new int[size], 0, new boolean[size], counts);
        }
        return counts;
    }

    private static void countOrders(int[] order, int at, boolean[] used, long[] counts) {
        if (at == order.length) {
            counts[find(cycles(order))]++;
            return;
        }
        for (int to = 0; to < order.length; to++) {
            if (!used[to]) {
                used[to] = true;
                order[at] = to;
                countOrders(order, at + 1, used, counts);
                used[to] = false;
            }
        }
    }

    private static int[] cycles(int[] order) {
        List<Integer> lengths = new ArrayList<>();
        boolean[] seen = new boolean[order.length];
        for (int start = 0; start < order.length; start++) {
            int length = 0;
            for (int at = start; !seen[at]; at = order[at]) {
                seen[at] = true;
                length++;
            }
            if (length > 0) {
                lengths.add(length);
            }
        }
        lengths.sort((a, b) -> b - a);
        return lengths.stream().mapToInt(Integer::intValue).toArray();
    }

    static long orders(int atClass) {
        return ORDERS[atClass];
    }

    /** Rims as beads: row r has its bead at its length plus how many rows are below it. */
    static List<int[]> rims(int shape, int k) {
        int[] rows = SHAPES.get(shape);
        int[] beads = new int[rows.length];
        for (int r = 0; r < rows.length; r++) {
            beads[r] = rows[r] + rows.length - 1 - r;
        }
        List<int[]> rims = new ArrayList<>();
        for (int r = 0; r < rows.length; r++) {
            int to = beads[r] - k;
            if (to < 0 || Arrays.stream(beads).anyMatch(bead -> bead == to)) {
                continue;
            }
            int from = beads[r];
            int height = (int) Arrays.stream(beads).filter(bead -> bead > to && bead < from).count();
            int[] moved = beads.clone();
            moved[r] = to;
            rims.add(new int[] {find(rowsOf(moved)), height});
        }
        return rims;
    }

    private static int[] rowsOf(int[] beads) {
        int[] sorted = beads.clone();
        Arrays.sort(sorted);
        int[] rows = new int[beads.length];
        for (int i = 0; i < beads.length; i++) {
            rows[beads.length - 1 - i] = sorted[i] - i;
        }
        return Arrays.stream(rows).filter(row -> row > 0).toArray();
    }

    /** How many ways the cycles of a class fill the rows of a shape, each cycle in one row. */
    private static long fillings(int[] rows, int[] cycles, int at) {
        if (at == cycles.length) {
            return 1;
        }
        long ways = 0;
        for (int r = 0; r < rows.length; r++) {
            if (rows[r] >= cycles[at]) {
                rows[r] -= cycles[at];
                ways += fillings(rows, cycles, at + 1);
                rows[r] += cycles[at];
            }
        }
        return ways;
    }

    private static long[][] allCharacters() {
        long[][] all = new long[SHAPES.size()][];
        for (int shape = 0; shape < SHAPES.size(); shape++) {
            int size = size(shape);
            int first = first(size);
            long[] mine = new long[many(size)];
            for (int place = 0; place < mine.length; place++) {
                mine[place] = fillings(SHAPES.get(shape).clone(), SHAPES.get(first + place), 0);
            }
            long[] rest = mine.clone();
            for (int ahead = first; ahead < shape; ahead++) {
                long often = inner(mine, all[ahead], first).divide(BigInteger.valueOf(factorial(size))).longValueExact();
                for (int place = 0; place < mine.length; place++) {
                    rest[place] -= often * all[ahead][place];
                }
            }
            all[shape] = rest;
        }
        return all;
    }

    private static BigInteger inner(long[] one, long[] other, int first) {
        BigInteger together = BigInteger.ZERO;
        for (int place = 0; place < one.length; place++) {
            together = together.add(BigInteger.valueOf(one[place]).multiply(BigInteger.valueOf(other[place]))
                .multiply(BigInteger.valueOf(ORDERS[first + place])));
        }
        return together;
    }

    static long factorial(int size) {
        return size < 2 ? 1 : size * factorial(size - 1);
    }

    static long character(int shape, int atClass) {
        return CHARACTERS[shape][atClass - first(size(shape))];
    }

    static long[] characters(int shape) {
        return CHARACTERS[shape].clone();
    }

    static long number(int one, int two, int three) {
        BigInteger[] values = new BigInteger[many(size(one))];
        for (int place = 0; place < values.length; place++) {
            values[place] = BigInteger.valueOf(CHARACTERS[one][place])
                .multiply(BigInteger.valueOf(CHARACTERS[two][place]));
        }
        return multiplicity(values, three);
    }

    /** How often a shape stands in what has these values at the classes of its size. */
    static long multiplicity(BigInteger[] values, int shape) {
        int first = first(size(shape));
        BigInteger together = BigInteger.ZERO;
        for (int place = 0; place < values.length; place++) {
            together = together.add(values[place].multiply(BigInteger.valueOf(CHARACTERS[shape][place]))
                .multiply(BigInteger.valueOf(ORDERS[first + place])));
        }
        BigInteger[] parts = together.divideAndRemainder(BigInteger.valueOf(factorial(size(shape))));
        if (parts[1].signum() != 0) {
            throw new IllegalStateException("a rest");
        }
        return parts[0].longValueExact();
    }

    /** -9: it can't be grown so. */
    static int grown(int shape, int n) {
        int ahead = n - size(shape);
        int[] rows = SHAPES.get(shape);
        if (ahead == 0 && rows.length == 0) {
            return 0;
        }
        int[] longer = new int[rows.length + 1];
        longer[0] = ahead;
        System.arraycopy(rows, 0, longer, 1, rows.length);
        return falls(longer) ? find(longer) : -9;
    }

    static boolean isOfKind(int shape, int kind) {
        int[] rows = SHAPES.get(shape);
        int length = rows.length;
        switch (kind) {
            case 0: return length < 2;
            case 1: return Arrays.stream(rows).allMatch(row -> row == 1);
            case 2: return length < 3;
            case 3: return length > 0 && Arrays.stream(rows).skip(1).allMatch(row -> row == 1);
            case 4: return turned(shape) == shape;
            case 5: return Arrays.stream(rows).distinct().count() < 2;
            default: return Arrays.equals(rows, stairs(length));
        }
    }

    private static int[] stairs(int length) {
        int[] rows = new int[length];
        for (int r = 0; r < length; r++) {
            rows[r] = length - r;
        }
        return rows;
    }
}

import java.math.BigInteger;
import java.util.ArrayDeque;
import java.util.ArrayList;
import java.util.Arrays;
import java.util.Deque;
import java.util.List;
import java.util.regex.Matcher;
import java.util.regex.Pattern;

/** The whole face once more, by the plainest means: states are copied whole, texts tried against a pattern. */
final class Model {
    private static final Pattern TEXT = Pattern.compile("-?\\d{0,3}\\[[1-8]*\\]([+-]\\d{0,3}\\[[1-8]*\\])*");
    private static final Pattern TERM = Pattern.compile("([+-]?)(\\d{0,3})\\[([1-8]*)\\]");
    private static final long FAR = 4000000000000000000L;
    private static final int NEAR = 1000000000;

    /** Of a sum: null, or the coefficients of all 67 shapes and behind them the size. */
    private long[][] sums = new long[4][];
    private long[][] image;
    private final Deque<long[][]> undos = new ArrayDeque<>();
    private String letters = "";
    private final int[][] lists = new int[3][];
    private final int[] refusals = new int[7];

    private int refuse(int number) {
        refusals[-number]++;
        return number;
    }

    private int refuseNear(int number) {
        return NEAR - refuse(number);
    }

    private long refuseFar(int number) {
        return FAR - refuse(number);
    }

    private static boolean isShape(int... shapes) {
        return Arrays.stream(shapes).allMatch(shape -> shape >= 0 && shape < 67);
    }

    private static boolean unlike(int... shapes) {
        return Arrays.stream(shapes).map(Oracle::size).distinct().count() > 1;
    }

    private static boolean isSum(int... sums) {
        return Arrays.stream(sums).allMatch(sum -> sum >= 0 && sum < 4);
    }

    private static boolean isList(int list) {
        return list >= 0 && list < 3;
    }

    int of(int shape, int what) {
        if (!isShape(shape)) return refuse(-1);
        int[] rows = Oracle.SHAPES.get(shape);
        if (what >= 10 && what <= 17) return what - 10 < rows.length ? rows[what - 10] : 0;
        if (what == 0) return Oracle.size(shape);
        if (what == 1) return rows.length;
        if (what == 2) return Oracle.turned(shape);
        if (what == 3) return (int) Oracle.dimension(shape);
        if (what == 4) return (int) Oracle.orders(shape);
        if (what != 5) return refuse(-2);
        int bits = 0;
        for (int kind = 0; kind < 7; kind++) {
            bits += Oracle.isOfKind(shape, kind) ? 1 << kind : 0;
        }
        return bits;
    }

    int shape(int list) {
        if (!isList(list)) return refuse(-1);
        if (lists[list] == null) return -11;
        int found = Oracle.find(lists[list]);
        return found < 0 ? -9 : found;
    }

    int shapes(int size, int what) {
        if (size < 0) return refuse(-4);
        if (size > 8) return refuse(-6);
        if (what != 0 && what != 1) return refuse(-2);
        return what == 0 ? Oracle.first(size) : Oracle.many(size);
    }

    int hook(int shape, int r, int c) {
        if (!isShape(shape) || Oracle.hook(shape, r, c) < 0) return refuse(-1);
        return Oracle.hook(shape, r, c);
    }

    int rims(int shape, int k, int i) {
        if (!isShape(shape)) return refuse(-1);
        if (k < 1 || i < -1) return refuse(-4);
        if (k > 8) return refuse(-6);
        List<int[]> rims = Oracle.rims(shape, k);
        if (i == -1) return rims.size();
        return i < rims.size() ? rims.get(i)[0] : -9;
    }

    int height(int shape, int k, int i) {
        if (!isShape(shape)) return refuse(-1);
        if (k < 1 || i < 0) return refuse(-4);
        if (k > 8) return refuse(-6);
        List<int[]> rims = Oracle.rims(shape, k);
        return i < rims.size() ? rims.get(i)[1] : -9;
    }

    int character(int shape, int atClass) {
        if (!isShape(shape, atClass)) return refuseNear(-1);
        if (unlike(shape, atClass)) return refuseNear(-3);
        return (int) Oracle.character(shape, atClass);
    }

    long odds(int size, int kind, int part) {
        if (size < 0) return refuseFar(-4);
        if (size > 8) return refuseFar(-6);
        if (kind < 0 || kind > 6 || part < 0 || part > 1) return refuseFar(-2);
        int above = 0;
        for (int shape = 0; shape < 67; shape++) {
            above += Oracle.size(shape) == size && Oracle.isOfKind(shape, kind) ? 1 : 0;
        }
        int below = Oracle.many(size);
        int divisor = BigInteger.valueOf(above).gcd(BigInteger.valueOf(below)).intValue();
        return (part == 0 ? above : below) / divisor;
    }

    int number(int one, int two, int three) {
        if (!isShape(one, two, three)) return refuse(-1);
        if (unlike(one, two, three)) return refuse(-3);
        return (int) Oracle.number(one, two, three);
    }

    private static List<Integer> product(int one, int two) {
        List<Integer> found = new ArrayList<>();
        for (int three = 0; three < 67; three++) {
            if (!unlike(one, three) && Oracle.number(one, two, three) > 0) {
                found.add(three);
            }
        }
        return found;
    }

    int product(int one, int two, int i) {
        if (!isShape(one, two)) return refuse(-1);
        if (unlike(one, two)) return refuse(-3);
        if (i < -1) return refuse(-4);
        List<Integer> found = product(one, two);
        if (i == -1) return found.size();
        return i < found.size() ? found.get(i) : -9;
    }

    int greatest(int one, int two) {
        if (!isShape(one, two)) return refuse(-1);
        if (unlike(one, two)) return refuse(-3);
        return (int) product(one, two).stream().mapToLong(three -> Oracle.number(one, two, three)).max().getAsLong();
    }

    int grown(int shape, int n) {
        if (!isShape(shape)) return refuse(-1);
        if (n < 0) return refuse(-4);
        if (n > 8) return refuse(-6);
        if (Oracle.size(shape) > 4) return refuse(-3);
        return Oracle.grown(shape, n);
    }

    int settled(int one, int two, int three, int what) {
        if (!isShape(one, two, three)) return refuse(-1);
        if (what != 0 && what != 1) return refuse(-2);
        if (Oracle.size(one) > 4 || Oracle.size(two) > 4 || Oracle.size(three) > 4) return refuse(-3);
        List<Long> found = new ArrayList<>();
        for (int n = 0; n <= 8; n++) {
            int[] all = {Oracle.grown(one, n), Oracle.grown(two, n), Oracle.grown(three, n)};
            if (isShape(all)) {
                found.add(Oracle.number(all[0], all[1], all[2]));
            }
        }
        if (found.isEmpty()) return -9;
        int start = found.size() - 1;
        long last = found.get(start);
        if (what == 1) return (int) last;
        for (int i = found.size() - 1; i >= 0 && found.get(i) == last; i--) {
            start = i;
        }
        return 8 - (found.size() - 1 - start);
    }

    int lots(int size, int n, int z, int what) {
        if (size < 1 || n < 1) return refuse(-4);
        if (size > 8 || n > 50) return refuse(-6);
        if (what != 0 && what != 1) return refuse(-2);
        long seed = z & 0xffffffffL;
        int above = 0;
        int together = 0;
        for (int i = 0; i < n; i++) {
            int[] drawn = new int[2];
            for (int d = 0; d < 2; d++) {
                seed = (seed * 1664525 + 1013904223) & 0xffffffffL;
                drawn[d] = Oracle.first(size) + (int) ((seed & 0x7fffffffL) / 256 % Oracle.many(size));
            }
            int number = (int) Oracle.number(drawn[0], drawn[0], drawn[1]);
            above += number > 0 ? 1 : 0;
            together += number;
        }
        return what == 0 ? above : together;
    }

    int letter(int c) {
        if (c < 0) return refuse(-4);
        if (c > 255 || letters.length() == 72) return refuse(-6);
        letters += (char) c;
        return letters.length();
    }

    /** A whole text that may stand: the pattern fits, the rows fall, and all sizes are one. */
    static boolean stands(String text) {
        if (!TEXT.matcher(text).matches()) return false;
        Matcher terms = TERM.matcher(text);
        int size = -1;
        while (terms.find()) {
            int[] rows = terms.group(3).chars().map(sign -> sign - '0').toArray();
            int mine = Arrays.stream(rows).sum();
            if (!Oracle.falls(rows) || mine > 8 || size >= 0 && mine != size) return false;
            size = mine;
        }
        return true;
    }

    /** Something can be put behind it so that it stands. */
    static boolean canGoOn(String start) {
        if (stands(start)) return true;
        for (int ones = 0; ones <= 8; ones++) {
            String rows = "1".repeat(ones) + "]";
            if (stands(start + rows) || stands(start + "[" + rows)) return true;
        }
        return false;
    }

    static int fault(String text) {
        for (int length = 1; length <= text.length(); length++) {
            if (!canGoOn(text.substring(0, length))) return length - 1;
        }
        return text.length();
    }

    int reads(int sum) {
        if (!isSum(sum)) return refuse(-1);
        String text = letters;
        letters = "";
        if (!stands(text)) return -1000 - fault(text);
        long[] told = new long[68];
        Matcher terms = TERM.matcher(text);
        while (terms.find()) {
            int shape = Oracle.find(terms.group(3).chars().map(sign -> sign - '0').toArray());
            long number = terms.group(2).isEmpty() ? 1 : Long.parseLong(terms.group(2));
            told[shape] += terms.group(1).equals("-") ? -number : number;
            told[67] = Oracle.size(shape);
        }
        return becomes(sum, told);
    }

    private int becomes(int sum, long[] told) {
        undos.addLast(copy(sums));
        if (undos.size() > 8) undos.removeFirst();
        sums[sum] = told;
        return terms(told);
    }

    private static long[][] copy(long[][] all) {
        long[][] copied = new long[all.length][];
        for (int i = 0; i < all.length; i++) {
            copied[i] = all[i] == null ? null : all[i].clone();
        }
        return copied;
    }

    private static int terms(long[] sum) {
        int terms = 0;
        for (int shape = 0; sum != null && shape < 67; shape++) {
            terms += sum[shape] != 0 ? 1 : 0;
        }
        return terms;
    }

    int clear(int sum) {
        if (!isSum(sum)) return refuse(-1);
        int was = sums[sum] == null ? 0 : 1;
        becomes(sum, null);
        return was;
    }

    int sum(int sum, int what) {
        if (!isSum(sum)) return refuse(-1);
        if (what < 0 || what > 2) return refuse(-2);
        if (sums[sum] == null) return -11;
        if (what == 0) return (int) sums[sum][67];
        if (what == 1) return terms(sums[sum]);
        for (int shape = 0; shape < 67; shape++) {
            if (sums[sum][shape] != 0) return shape;
        }
        return -9;
    }

    int coefficient(int sum, int shape) {
        if (!isSum(sum) || !isShape(shape)) return refuseNear(-1);
        if (sums[sum] == null) return NEAR + 11;
        return (int) sums[sum][shape];
    }

    int makes(int sum, int one, int other, int what) {
        if (!isSum(sum, one, other)) return refuse(-1);
        if (what < 0 || what > 2) return refuse(-2);
        if (sums[one] == null || sums[other] == null) return -11;
        if (sums[one][67] != sums[other][67]) return refuse(-3);
        long[] made = new long[68];
        for (int shape = 0; shape < 67; shape++) {
            made[shape] = sums[one][shape] + (what == 0 ? 1 : -1) * sums[other][shape];
        }
        return keeps(sum, what == 2 ? times(one, other) : made, (int) sums[one][67]);
    }

    private BigInteger[] values(int sum) {
        int size = (int) sums[sum][67];
        BigInteger[] values = new BigInteger[Oracle.many(size)];
        for (int place = 0; place < values.length; place++) {
            values[place] = BigInteger.valueOf(valueOf(sum, Oracle.first(size) + place));
        }
        return values;
    }

    private long valueOf(int sum, int atClass) {
        long together = 0;
        for (int shape = 0; shape < 67; shape++) {
            together += sums[sum][shape] == 0 ? 0 : sums[sum][shape] * Oracle.character(shape, atClass);
        }
        return together;
    }

    private long[] times(int one, int other) {
        BigInteger[] values = values(one);
        BigInteger[] others = values(other);
        for (int place = 0; place < values.length; place++) {
            values[place] = values[place].multiply(others[place]);
        }
        long[] made = new long[68];
        for (int shape = 0; shape < 67; shape++) {
            made[shape] = Oracle.size(shape) == sums[one][67] ? Oracle.multiplicity(values, shape) : 0;
        }
        return made;
    }

    private int keeps(int sum, long[] made, int size) {
        made[67] = size;
        for (int shape = 0; shape < 67; shape++) {
            if (Math.abs(made[shape]) > 1000000) return refuse(-6);
        }
        return becomes(sum, made);
    }

    int changed(int sum, int what) {
        if (!isSum(sum)) return refuse(-1);
        if (what < 0 || what > 2) return refuse(-2);
        if (sums[sum] == null) return -11;
        int size = (int) sums[sum][67] + (what == 0 ? 0 : what == 1 ? -1 : 1);
        if (size < 0 || size > 8) return refuse(-3);
        long[] made = new long[68];
        for (int shape = 0; shape < 67; shape++) {
            if (what == 0) {
                made[Oracle.turned(shape)] += sums[sum][shape];
            } else if (what == 1) {
                for (int[] rim : Oracle.rims(shape, 1)) {
                    made[rim[0]] += sums[sum][shape];
                }
            } else {
                for (int[] rim : Oracle.rims(shape, 1)) {
                    made[shape] += sums[sum][rim[0]];
                }
            }
        }
        return keeps(sum, made, size);
    }

    long value(int sum, int atClass) {
        if (!isSum(sum) || !isShape(atClass)) return refuseFar(-1);
        if (sums[sum] == null) return FAR + 11;
        if (Oracle.size(atClass) != sums[sum][67]) return refuseFar(-3);
        return valueOf(sum, atClass);
    }

    long inner(int one, int other) {
        if (!isSum(one, other)) return refuseFar(-1);
        if (sums[one] == null || sums[other] == null) return FAR + 11;
        if (sums[one][67] != sums[other][67]) return refuseFar(-3);
        long together = 0;
        for (int shape = 0; shape < 67; shape++) {
            together += sums[one][shape] * sums[other][shape];
        }
        return together;
    }

    int list(int list, int n) {
        if (!isList(list)) return refuse(-1);
        if (n > 40) return refuse(-6);
        if (n < 0) return -14;
        lists[list] = new int[n];
        return 1;
    }

    int put(int list, int i, int v) {
        if (!isList(list)) return refuse(-1);
        if (lists[list] == null) return -11;
        if (i < 0 || i >= lists[list].length) return -13;
        lists[list][i] = v;
        return 1;
    }

    long look(int list, int i) {
        if (!isList(list)) return refuseFar(-1);
        if (lists[list] == null) return FAR + 11;
        if (i < 0 || i >= lists[list].length) return FAR + 13;
        return lists[list][i];
    }

    int lays(int list, int i, int shape) {
        if (!isList(list) || !isShape(shape)) return refuse(-1);
        if (lists[list] == null) return -11;
        long[] characters = Oracle.characters(shape);
        if (i < 0 || (long) i + characters.length > lists[list].length) return -13;
        for (int place = 0; place < characters.length; place++) {
            lists[list][i + place] = (int) characters[place];
        }
        return characters.length;
    }

    private int judged(int list, int shape) {
        long[] characters = Oracle.characters(shape);
        for (int i = 0; i < lists[list].length; i++) {
            if (i >= characters.length || characters[i] != lists[list][i]) return i;
        }
        return -9;
    }

    int judge(int list, int shape) {
        if (!isList(list) || !isShape(shape)) return refuse(-1);
        return lists[list] == null ? -11 : judged(list, shape);
    }

    int which(int list, int size, int what) {
        if (!isList(list)) return refuse(-1);
        if (size < 0) return refuse(-4);
        if (size > 8) return refuse(-6);
        if (what != 0 && what != 1) return refuse(-2);
        if (lists[list] == null) return -11;
        List<Integer> found = new ArrayList<>();
        for (int shape = 0; shape < 67; shape++) {
            if (Oracle.size(shape) == size && judged(list, shape) == -9) found.add(shape);
        }
        if (what == 0) return found.size();
        return found.isEmpty() ? -9 : found.get(0);
    }

    int undo() {
        if (undos.isEmpty()) return refuse(-3);
        sums = undos.removeLast();
        return undos.size();
    }

    int image() {
        image = copy(sums);
        return count(0);
    }

    int on() {
        if (image == null) return refuse(-3);
        sums = copy(image);
        undos.clear();
        return count(0);
    }

    int count(int what) {
        if (what >= 11 && what <= 16) return refusals[what - 10];
        if (what == 1) return letters.length();
        if (what == 3) return undos.size();
        if (what != 0 && what != 2) return -9;
        int many = 0;
        for (long[] sum : sums) {
            many += what == 2 ? terms(sum) : sum == null ? 0 : 1;
        }
        return many;
    }
}

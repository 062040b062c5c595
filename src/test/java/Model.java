import java.math.BigInteger;
import java.util.ArrayList;
import java.util.Collections;
import java.util.List;

/**
 * The document told a second time, by other ways than the class goes: fractions by elimination, hours in
 * lists, ranks by sorting, cuts by trying all 1331. Asked by ModelTest and RefusalTest.
 */
final class Model {
    private static final BigInteger PARTS = BigInteger.valueOf(100352);

    private final int[] winds = new int[24];
    private final Object[] sheets = new Object[4];
    private final int[] boxOf = {0, 0, 0};
    private final int[][] rates = new int[3][24];
    private long[][] stuff = new long[3][9];
    private final long[][] totals = new long[3][4];
    private final int[] doors = new int[4];
    private final boolean[] lost = new boolean[4];
    private final boolean[] watched = new boolean[4];
    private final List<List<long[]>> kept = new ArrayList<>();
    private final int[] prices = {1, 1, 1};
    private int limit = 0;
    private int most = 0;
    private int time = 0;

    Model() {
        for (int i = 0; i < 4; i++) {
            kept.add(new ArrayList<>());
        }
    }

    private static boolean in(long v, long low, long high) {
        return low <= v && v <= high;
    }

    /** The box to the given side of a wall, or -1. */
    private static int beside(int wall, boolean before) {
        int x = wall < 12 ? wall % 4 : (wall - 12) % 3;
        int y = wall < 12 ? wall / 4 : (wall - 12) / 3;
        if (before) {
            x -= wall < 12 ? 1 : 0;
            y -= wall < 12 ? 0 : 1;
        }
        return in(x, 0, 2) && in(y, 0, 2) ? 3 * y + x : -1;
    }

    long wind(int wall, int w) {
        if (!in(wall, 0, 23) || !in(w, -100, 100)) {
            return -1001;
        }
        int was = winds[wall];
        winds[wall] = w;
        return was;
    }

    long gives(int box) {
        if (!in(box, 0, 8)) {
            return -1001;
        }
        long sum = 0;
        for (int wall = 0; wall < 24; wall++) {
            sum += beside(wall, true) == box ? winds[wall] : 0;
            sum -= beside(wall, false) == box ? winds[wall] : 0;
        }
        return sum;
    }

    /** h times 100352, by elimination without fractions (Bareiss), the last pivot being the determinant. */
    private BigInteger[] heights() {
        BigInteger[][] a = new BigInteger[9][10];
        for (int i = 0; i < 9; i++) {
            for (int j = 0; j < 9; j++) {
                boolean near = Math.abs(i % 3 - j % 3) + Math.abs(i / 3 - j / 3) == 1;
                a[i][j] = BigInteger.valueOf(i == j ? 4 : near ? -1 : 0);
            }
            a[i][9] = BigInteger.valueOf(-gives(i));
        }
        BigInteger before = BigInteger.ONE;
        for (int k = 0; k < 9; k++) {
            for (int i = 0; i < 9; i++) {
                if (i != k) {
                    BigInteger f = a[i][k];
                    for (int j = 0; j < 10; j++) {
                        a[i][j] = a[i][j].multiply(a[k][k]).subtract(f.multiply(a[k][j])).divide(before);
                    }
                }
            }
            before = a[k][k];
        }
        BigInteger[] h = new BigInteger[9];
        for (int i = 0; i < 9; i++) {
            h[i] = a[i][9].multiply(PARTS).divide(a[i][i]);
        }
        return h;
    }

    private long[] changes() {
        BigInteger[] h = heights();
        long[] by = new long[24];
        for (int wall = 0; wall < 24; wall++) {
            int from = beside(wall, true);
            int to = beside(wall, false);
            by[wall] = (from < 0 ? 0 : h[from].longValueExact()) - (to < 0 ? 0 : h[to].longValueExact());
        }
        return by;
    }

    long still(int wall) {
        return in(wall, 0, 23) ? winds[wall] * 100352L + changes()[wall] : -1000000001L;
    }

    long change() {
        BigInteger sum = BigInteger.ZERO;
        for (long by : changes()) {
            sum = sum.add(BigInteger.valueOf(by).pow(2));
        }
        return sum.longValueExact();
    }

    long sheet(int sheet, int lane, int n) {
        if (!in(sheet, 0, 3) || !in(lane, 0, 1) || n > 24) {
            return -1;
        }
        if (n < 0) {
            return -14;
        }
        sheets[sheet] = lane == 0 ? (Object) new short[n] : new int[n];
        return n;
    }

    private long refused(int sheet, int lane) {
        if (!in(sheet, 0, 3) || !in(lane, 0, 1)) {
            return -1;
        }
        if (sheets[sheet] == null) {
            return -11;
        }
        return (lane == 0) == sheets[sheet] instanceof short[] ? 0 : -12;
    }

    long drop(int sheet) {
        if (!in(sheet, 0, 3)) {
            return -1;
        }
        if (sheets[sheet] == null) {
            return -11;
        }
        int had = java.lang.reflect.Array.getLength(sheets[sheet]);
        sheets[sheet] = null;
        return had;
    }

    long item(int sheet, int lane, int i, int v) {
        long no = refused(sheet, lane);
        if (no != 0) {
            return no;
        }
        if (!in(i, 0, java.lang.reflect.Array.getLength(sheets[sheet]) - 1)) {
            return -13;
        }
        if (lane == 0) {
            ((short[]) sheets[sheet])[i] = (short) v;
        } else {
            ((int[]) sheets[sheet])[i] = v;
        }
        return 1;
    }

    long source(int source, int box, int sheet, int lane) {
        if (!in(source, 0, 2) || !in(box, 0, 8)) {
            return -1;
        }
        long no = refused(sheet, lane);
        if (no != 0) {
            return no;
        }
        if (java.lang.reflect.Array.getLength(sheets[sheet]) != 24) {
            return -13;
        }
        int[] taken = new int[24];
        int sum = 0;
        for (int i = 0; i < 24; i++) {
            taken[i] = java.lang.reflect.Array.getInt(sheets[sheet], i);
            sum += taken[i];
            if (!in(taken[i], 0, 1000000)) {
                return -2;
            }
        }
        rates[source] = taken;
        boxOf[source] = box;
        return sum;
    }

    long door(int door, int box) {
        if (!in(door, 0, 3) || !in(box, 0, 8)) {
            return -1;
        }
        int had = kept.get(door).size();
        kept.get(door).clear();
        doors[door] = box;
        return had;
    }

    long lose(int door, boolean is) {
        if (!in(door, 0, 3)) {
            return -1;
        }
        boolean was = lost[door];
        lost[door] = is;
        return was ? 1 : 0;
    }

    long hours(int n, int r) {
        if (!in(n, 1, 50) || !in(r, 0, 1000)) {
            return -1;
        }
        long[] by = changes();
        for (int i = 0; i < n; i++) {
            for (int source = 0; source < 3; source++) {
                stuff[source] = hourOf(source, r, by);
            }
            time++;
            for (int door = 0; door < 4; door++) {
                List<long[]> list = kept.get(door);
                int box = doors[door];
                list.add(0, lost[door] ? null : new long[] {stuff[0][box], stuff[1][box], stuff[2][box]});
                if (list.size() > 100) {
                    list.remove(100);
                }
            }
        }
        return time;
    }

    private long[] hourOf(int source, int r, long[] by) {
        long[] had = stuff[source].clone();
        had[boxOf[source]] += rates[source][time % 24];
        totals[source][0] += rates[source][time % 24];
        long[] next = new long[9];
        for (int box = 0; box < 9; box++) {
            long wash = had[box] * r / 1000;
            long lay = (had[box] - wash) / 1000;
            totals[source][1] += wash;
            totals[source][2] += lay;
            long n = had[box] - wash - lay;
            next[box] += n;
            for (int wall = 0; wall < 24; wall++) {
                long speed = winds[wall] * 100352L + by[wall];
                int there = -2;
                if (beside(wall, true) == box && speed > 0) {
                    there = beside(wall, false);
                } else if (beside(wall, false) == box && speed < 0) {
                    there = beside(wall, true);
                }
                if (there != -2) {
                    long go = BigInteger.valueOf(n).multiply(BigInteger.valueOf(Math.abs(speed)))
                        .divide(PARTS.multiply(BigInteger.valueOf(1000))).longValueExact();
                    next[box] -= go;
                    if (there == -1) {
                        totals[source][3] += go;
                    } else {
                        next[there] += go;
                    }
                }
            }
        }
        return next;
    }

    long grains(int source, int box) {
        return in(source, 0, 2) && in(box, 0, 8) ? stuff[source][box] : -1;
    }

    long total(int source, int what) {
        if (!in(source, 0, 2) || !in(what, 0, 4)) {
            return -1;
        }
        return what < 4 ? totals[source][what] : java.util.Arrays.stream(stuff[source]).sum();
    }

    private static long sum(long[] shares) {
        return shares[0] + shares[1] + shares[2];
    }

    private static List<Long> written(List<long[]> list) {
        List<Long> numbers = new ArrayList<>();
        for (long[] shares : list) {
            if (shares != null) {
                numbers.add(sum(shares));
            }
        }
        return numbers;
    }

    private static long meanOf(List<Long> numbers) {
        long sum = 0;
        for (long number : numbers) {
            sum += number;
        }
        return sum / numbers.size();
    }

    long hour(int door, int i, int source) {
        if (!in(door, 0, 3) || !in(i, 0, kept.get(door).size() - 1) || !in(source, 0, 3)) {
            return -1;
        }
        long[] shares = kept.get(door).get(i);
        return shares == null ? -4 : source == 3 ? sum(shares) : shares[source];
    }

    long kept(int door, int what) {
        if (!in(door, 0, 3) || !in(what, 0, 1)) {
            return -1;
        }
        return what == 0 ? kept.get(door).size() : written(kept.get(door)).size();
    }

    long mean(int door) {
        if (!in(door, 0, 3)) {
            return -1;
        }
        List<Long> numbers = written(kept.get(door));
        return numbers.isEmpty() ? -4 : meanOf(numbers);
    }

    long rank(int door, int k) {
        if (!in(door, 0, 3) || k < 1) {
            return -1;
        }
        List<Long> numbers = written(kept.get(door));
        Collections.sort(numbers, Collections.reverseOrder());
        return k > numbers.size() ? -4 : numbers.get(k - 1);
    }

    long rolling(int door, int w) {
        if (!in(door, 0, 3) || !in(w, 1, 24)) {
            return -1;
        }
        List<long[]> list = kept.get(door);
        long best = -4;
        for (int i = 0; i + w <= list.size(); i++) {
            List<Long> numbers = written(list.subList(i, i + w));
            if (2 * numbers.size() >= w) {
                best = Math.max(best, meanOf(numbers));
            }
        }
        return best;
    }

    long watch(int door, boolean is) {
        if (!in(door, 0, 3)) {
            return -1;
        }
        watched[door] = is;
        int sum = 0;
        for (boolean w : watched) {
            sum += w ? 1 : 0;
        }
        return sum;
    }

    private boolean keptAt(int door, int a, int b, int c) {
        int above = 0;
        for (long[] s : kept.get(door)) {
            above += s != null && s[0] * (10 - a) + s[1] * (10 - b) + s[2] * (10 - c) > 10L * limit ? 1 : 0;
        }
        return above <= most;
    }

    long law(int newLimit, int n) {
        if (!in(newLimit, 0, 1000000000) || !in(n, 0, 100)) {
            return -1;
        }
        limit = newLimit;
        most = n;
        int sum = 0;
        for (int door = 0; door < 4; door++) {
            sum += watched[door] && keptAt(door, 0, 0, 0) ? 1 : 0;
        }
        return sum;
    }

    long price(int source, int p) {
        if (!in(source, 0, 2) || !in(p, 0, 1000)) {
            return -1;
        }
        int was = prices[source];
        prices[source] = p;
        return was;
    }

    long cheapest(int what) {
        if (!in(what, 0, 3)) {
            return -1;
        }
        int[] best = null;
        for (int i = 0; i < 1331; i++) {
            int[] cut = {i / 121, i / 11 % 11, i % 11, 0};
            cut[3] = cut[0] * prices[0] + cut[1] * prices[1] + cut[2] * prices[2];
            boolean keeps = true;
            for (int door = 0; door < 4; door++) {
                keeps &= !watched[door] || keptAt(door, cut[0], cut[1], cut[2]);
            }
            if (keeps && (best == null || cut[3] < best[3])) {
                best = cut;
            }
        }
        return best[what];
    }
}

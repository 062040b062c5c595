import java.util.Arrays;

/** Winds, stuff and doors over nine boxes; DOC.md tells what each call promises. */
public final class WindBoxes {
    public static final int BAD = -1, NOT = -2, FULL = -3, NONE = -4, NULL = -11, CAST = -12, INDEX = -13, SIZE = -14;

    private static final int BOXES = 9;
    private static final int WALLS = 24;
    private static final int SOURCES = 3;
    private static final int SHEETS = 4;
    private static final int DOORS = 4;
    private static final int SHORTS = 0;
    private static final int INTS = 1;
    private static final int DAY = 24;
    private static final int THOUSAND = 1000;
    private static final int ALL_TENTHS = 10;

    private static final int MOST_WIND = 100;
    private static final int MOST_RATE = 1000000;
    private static final int MOST_HOURS = 50;
    private static final int MOST_KEPT = 100;
    private static final int MOST_LIMIT = 1000000000;
    private static final int MOST_PRICE = 1000;

    /** The cuts sought start from a sum that none have, so that even the dearest ones take its place. */
    private static final int NO_CUTS_COST = SOURCES * ALL_TENTHS * MOST_PRICE + 1;

    private static final int BAD_WIND = BAD - 1000;
    private static final long BAD_STILL = BAD - 1000000000L;

    /** The place behind the last box, so that outer walls need no case of their own. */
    private static final int OUTSIDE = 9;

    /** Where the air at each wall comes from and goes to when its wind is above 0. */
    private static final int[] FROM = {
        9, 0, 1, 2, 9, 3, 4, 5, 9, 6, 7, 8,
        9, 9, 9, 0, 1, 2, 3, 4, 5, 6, 7, 8};
    private static final int[] TO = {
        0, 1, 2, 9, 3, 4, 5, 9, 6, 7, 8, 9,
        0, 1, 2, 3, 4, 5, 6, 7, 8, 9, 9, 9};

    /** 100352 is the determinant of the nine boxes' equations: every h is a whole number of such parts. */
    private static final long PARTS = 100352;

    /**
     * The equations (4 h of a box less the h of its neighbours) turned round once and for all:
     * row b tells, in parts of 224, by how much each h falls if box b gives 1.
     */
    private static final int[] FALL = {
        67, 22, 7, 22, 14, 6, 7, 6, 3,
        22, 74, 22, 14, 28, 14, 6, 10, 6,
        7, 22, 67, 6, 14, 22, 3, 6, 7,
        22, 14, 6, 74, 28, 10, 22, 14, 6,
        14, 28, 14, 28, 84, 28, 14, 28, 14,
        6, 14, 22, 10, 28, 74, 6, 14, 22,
        7, 6, 3, 22, 14, 6, 67, 22, 7,
        6, 10, 6, 14, 28, 14, 22, 74, 22,
        3, 6, 7, 6, 14, 22, 7, 22, 67};
    private static final long FALL_PARTS = PARTS / 224;

    private final Air air = new Air();
    private final Sheet[] sheets = new Sheet[SHEETS];
    private final Stuff[] stuffs = new Stuff[SOURCES];
    private final Log[] logs = new Log[DOORS];
    private final Law rule = new Law();
    private int time = 0;

    public WindBoxes() {
        for (int i = 0; i < SHEETS; i++) {
            sheets[i] = new Sheet();
        }
        for (int i = 0; i < SOURCES; i++) {
            stuffs[i] = new Stuff();
        }
        for (int i = 0; i < DOORS; i++) {
            logs[i] = new Log();
        }
    }

    // ---- 1 winds

    public int wind(int wall, int w) {
        if (!isBelow(wall, WALLS) || w < -MOST_WIND || w > MOST_WIND) {
            return BAD_WIND;
        }
        int was = air.winds[wall];
        air.winds[wall] = w;
        air.settle();
        return was;
    }

    public int gives(int box) {
        return isBelow(box, BOXES) ? air.surplus(box) : BAD_WIND;
    }

    public long still(int wall) {
        return isBelow(wall, WALLS) ? air.net[wall] : BAD_STILL;
    }

    public long change() {
        return air.squaresOfChanges();
    }

    // ---- 2 sources and hours

    public int sheet(int sheet, int lane, int n) {
        if (!isBelow(sheet, SHEETS) || !isLane(lane) || n > DAY) {
            return BAD;
        }
        if (n < 0) {
            return SIZE;
        }
        sheets[sheet].begin(lane, n);
        return n;
    }

    public int drop(int sheet) {
        if (!isBelow(sheet, SHEETS)) {
            return BAD;
        }
        Sheet row = sheets[sheet];
        if (!row.held) {
            return NULL;
        }
        row.held = false;
        return row.length;
    }

    public int item(int sheet, int lane, int i, int v) {
        if (!isBelow(sheet, SHEETS) || !isLane(lane)) {
            return BAD;
        }
        Sheet row = sheets[sheet];
        if (!row.isOf(lane)) {
            return row.held ? CAST : NULL;
        }
        if (!isBelow(i, row.length)) {
            return INDEX;
        }
        row.items[i] = lane == SHORTS ? (short) v : v;
        return 1;
    }

    public int source(int source, int box, int sheet, int lane) {
        if (!isBelow(source, SOURCES) || !isBelow(box, BOXES) || !isBelow(sheet, SHEETS) || !isLane(lane)) {
            return BAD;
        }
        Sheet row = sheets[sheet];
        if (!row.isOf(lane)) {
            return row.held ? CAST : NULL;
        }
        if (row.length != DAY) {
            return INDEX;
        }
        if (!row.areRates()) {
            return NOT;
        }
        return stuffs[source].stand(box, row.items);
    }

    public int door(int door, int box) {
        if (!isBelow(door, DOORS) || !isBelow(box, BOXES)) {
            return BAD;
        }
        return logs[door].move(box);
    }

    public int lose(int door, boolean lost) {
        if (!isBelow(door, DOORS)) {
            return BAD;
        }
        int was = logs[door].lost ? 1 : 0;
        logs[door].lost = lost;
        return was;
    }

    public int hours(int n, int r) {
        if (n < 1 || n > MOST_HOURS || r < 0 || r > THOUSAND) {
            return BAD;
        }
        for (int i = 0; i < n; i++) {
            passHour(r);
        }
        return time;
    }

    public long grains(int source, int box) {
        if (!isBelow(source, SOURCES) || !isBelow(box, BOXES)) {
            return BAD;
        }
        return stuffs[source].places[box];
    }

    public long total(int source, int what) {
        if (!isBelow(source, SOURCES)) {
            return BAD;
        }
        Stuff stuff = stuffs[source];
        switch (what) {
            case 0:
                return stuff.given;
            case 1:
                return stuff.washed;
            case 2:
                return stuff.laid;
            case 3:
                return stuff.places[OUTSIDE];
            case 4:
                return stuff.inBoxes();
            default:
                return BAD;
        }
    }

    // ---- 3 doors

    public long hour(int door, int i, int source) {
        if (!isBelow(door, DOORS) || !isBelow(i, logs[door].count) || source < 0 || source > SOURCES) {
            return BAD;
        }
        Log log = logs[door];
        int slot = log.slotOf(i);
        if (log.gaps[slot]) {
            return NONE;
        }
        return source == SOURCES ? log.numbers[slot] : log.shares[source][slot];
    }

    public int kept(int door, int what) {
        if (!isBelow(door, DOORS) || what < 0 || what > 1) {
            return BAD;
        }
        return what == 0 ? logs[door].count : logs[door].countOfWritten();
    }

    public long mean(int door) {
        return isBelow(door, DOORS) ? logs[door].meanOfWritten() : BAD;
    }

    public long rank(int door, int k) {
        return isBelow(door, DOORS) && k >= 1 ? logs[door].greatest(k) : BAD;
    }

    public long rolling(int door, int w) {
        return isBelow(door, DOORS) && w >= 1 && w <= DAY ? logs[door].greatestMean(w) : BAD;
    }

    public int watch(int door, boolean is) {
        if (!isBelow(door, DOORS)) {
            return BAD;
        }
        logs[door].watched = is;
        int sum = 0;
        for (int i = 0; i < DOORS; i++) {
            sum += logs[i].watched ? 1 : 0;
        }
        return sum;
    }

    public int law(int limit, int n) {
        if (limit < 0 || limit > MOST_LIMIT || n < 0 || n > MOST_KEPT) {
            return BAD;
        }
        rule.limit = limit;
        rule.most = n;
        return rule.doorsKeptAt(logs);
    }

    public int price(int source, int p) {
        if (!isBelow(source, SOURCES) || p < 0 || p > MOST_PRICE) {
            return BAD;
        }
        int was = rule.prices[source];
        rule.prices[source] = p;
        return was;
    }

    public int cheapest(int what) {
        if (what < 0 || what > SOURCES) {
            return BAD;
        }
        rule.seekCuts(logs);
        return what == SOURCES ? rule.leastCost : rule.cuts[what];
    }

    private static boolean isBelow(int number, int end) {
        return number >= 0 && number < end;
    }

    private static boolean isLane(int lane) {
        return lane == SHORTS || lane == INTS;
    }

    private void passHour(int wet) {
        // floorMod keeps the index good even where THE TIME has gone round, far beyond the 512 calls
        int hourOfDay = Math.floorMod(time, DAY);
        for (int i = 0; i < SOURCES; i++) {
            stuffs[i].giveOff(hourOfDay);
            stuffs[i].fallOut(wet);
            stuffs[i].blow(air.net);
        }
        time++;
        for (int i = 0; i < DOORS; i++) {
            logs[i].write(stuffs);
        }
    }

    /** The winds as measured, and the still net, kept in step with them. */
    private static final class Air {
        final int[] winds = new int[WALLS];
        final long[] heights = new long[BOXES + 1];
        final long[] net = new long[WALLS];

        int surplus(int box) {
            int left = box + box / 3;
            int below = 12 + box;
            int above = below + 3;
            return winds[left + 1] - winds[left] + winds[above] - winds[below];
        }

        void settle() {
            Arrays.fill(heights, 0L);
            for (int giver = 0; giver < BOXES; giver++) {
                long by = FALL_PARTS * surplus(giver);
                for (int box = 0; box < BOXES; box++) {
                    heights[box] -= by * FALL[giver * BOXES + box];
                }
            }
            for (int wall = 0; wall < WALLS; wall++) {
                net[wall] = PARTS * winds[wall] + changeAt(wall);
            }
        }

        long changeAt(int wall) {
            return heights[FROM[wall]] - heights[TO[wall]];
        }

        long squaresOfChanges() {
            long sum = 0;
            for (int wall = 0; wall < WALLS; wall++) {
                sum += changeAt(wall) * changeAt(wall);
            }
            return sum;
        }
    }

    /** A row of either lane: its items are held as ints that a short's item fits in. */
    private static final class Sheet {
        final int[] items = new int[DAY];
        boolean held = false;
        int lane = SHORTS;
        int length = 0;

        void begin(int newLane, int newLength) {
            Arrays.fill(items, 0);
            held = true;
            lane = newLane;
            length = newLength;
        }

        boolean isOf(int wanted) {
            return held && lane == wanted;
        }

        boolean areRates() {
            for (int i = 0; i < length; i++) {
                if (items[i] < 0 || items[i] > MOST_RATE) {
                    return false;
                }
            }
            return true;
        }
    }

    /** A source and its grains; the place OUTSIDE holds what was blown away. */
    private static final class Stuff {
        final int[] rates = new int[DAY];
        final long[] places = new long[BOXES + 1];
        final long[] before = new long[BOXES + 1];
        int home = 0;
        long given = 0;
        long washed = 0;
        long laid = 0;

        int stand(int box, int[] newRates) {
            home = box;
            int sum = 0;
            for (int i = 0; i < DAY; i++) {
                rates[i] = newRates[i];
                sum += rates[i];
            }
            return sum;
        }

        void giveOff(int hourOfDay) {
            places[home] += rates[hourOfDay];
            given += rates[hourOfDay];
        }

        void fallOut(int wet) {
            for (int box = 0; box < BOXES; box++) {
                long wash = places[box] * wet / THOUSAND;
                long lay = (places[box] - wash) / THOUSAND;
                places[box] -= wash + lay;
                washed += wash;
                laid += lay;
            }
        }

        void blow(long[] net) {
            // what came in this hour must not go on in it
            System.arraycopy(places, 0, before, 0, BOXES);
            for (int wall = 0; wall < WALLS; wall++) {
                boolean along = net[wall] > 0;
                int from = along ? FROM[wall] : TO[wall];
                int to = along ? TO[wall] : FROM[wall];
                if (from != OUTSIDE) {
                    long go = before[from] * Math.abs(net[wall]) / (PARTS * THOUSAND);
                    places[from] -= go;
                    places[to] += go;
                }
            }
        }

        long inBoxes() {
            long sum = 0;
            for (int box = 0; box < BOXES; box++) {
                sum += places[box];
            }
            return sum;
        }
    }

    /** A door and its latest hours, in rows that go round: hour i back from the latest is at slotOf(i). */
    private static final class Log {
        final long[] numbers = new long[MOST_KEPT];
        final long[][] shares = new long[SOURCES][MOST_KEPT];
        final boolean[] gaps = new boolean[MOST_KEPT];
        int box = 0;
        int count = 0;
        int latest = 0;
        boolean lost = false;
        boolean watched = false;

        int move(int newBox) {
            int had = count;
            box = newBox;
            count = 0;
            return had;
        }

        void write(Stuff[] stuffs) {
            latest = (latest + 1) % MOST_KEPT;
            count = Math.min(count + 1, MOST_KEPT);
            gaps[latest] = lost;
            numbers[latest] = 0;
            for (int i = 0; i < SOURCES; i++) {
                long share = stuffs[i].places[box];
                shares[i][latest] = share;
                numbers[latest] += share;
            }
        }

        int slotOf(int i) {
            return (latest - i + MOST_KEPT) % MOST_KEPT;
        }

        int countOfWritten() {
            return writtenIn(0, count);
        }

        int writtenIn(int first, int length) {
            int sum = 0;
            for (int i = first; i < first + length; i++) {
                sum += gaps[slotOf(i)] ? 0 : 1;
            }
            return sum;
        }

        long sumIn(int first, int length) {
            long sum = 0;
            for (int i = first; i < first + length; i++) {
                int slot = slotOf(i);
                sum += gaps[slot] ? 0 : numbers[slot];
            }
            return sum;
        }

        long meanOfWritten() {
            int written = countOfWritten();
            return written == 0 ? NONE : sumIn(0, count) / written;
        }

        /** No row is sorted: the k-th is the one with fewer than k above it and k or more not below it. */
        long greatest(int k) {
            for (int i = 0; i < count; i++) {
                int slot = slotOf(i);
                long number = numbers[slot];
                if (!gaps[slot] && countAbove(number) < k && countAbove(number - 1) >= k) {
                    return number;
                }
            }
            return NONE;
        }

        int countAbove(long bound) {
            int sum = 0;
            for (int i = 0; i < count; i++) {
                int slot = slotOf(i);
                sum += !gaps[slot] && numbers[slot] > bound ? 1 : 0;
            }
            return sum;
        }

        long greatestMean(int length) {
            long best = NONE;
            int needed = (length + 1) / 2;
            for (int first = 0; first + length <= count; first++) {
                int written = writtenIn(first, length);
                if (written > 0 && written >= needed) {
                    best = Math.max(best, sumIn(first, length) / written);
                }
            }
            return best;
        }

        /** Of each source's share so many tenths are left; the bound is in tenths too. */
        boolean isAboveAtMost(int most, long bound, int left0, int left1, int left2) {
            int above = 0;
            for (int i = 0; i < count && above <= most; i++) {
                int slot = slotOf(i);
                if (!gaps[slot]) {
                    long tenths = shares[0][slot] * left0 + shares[1][slot] * left1 + shares[2][slot] * left2;
                    above += tenths > bound ? 1 : 0;
                }
            }
            return above <= most;
        }
    }

    /** The law, the prices and the cuts found last. */
    private static final class Law {
        final int[] prices = {1, 1, 1};
        final int[] cuts = new int[SOURCES];
        int leastCost = 0;
        int limit = 0;
        int most = 0;

        int doorsKeptAt(Log[] logs) {
            int sum = 0;
            for (int i = 0; i < DOORS; i++) {
                sum += logs[i].watched && isKeptAt(logs[i], 0, 0, 0) ? 1 : 0;
            }
            return sum;
        }

        boolean isKeptAt(Log log, int cut0, int cut1, int cut2) {
            long bound = (long) limit * ALL_TENTHS;
            return log.isAboveAtMost(most, bound, ALL_TENTHS - cut0, ALL_TENTHS - cut1, ALL_TENTHS - cut2);
        }

        boolean isKept(Log[] logs, int cut0, int cut1, int cut2) {
            for (int i = 0; i < DOORS; i++) {
                if (logs[i].watched && !isKeptAt(logs[i], cut0, cut1, cut2)) {
                    return false;
                }
            }
            return true;
        }

        /**
         * A greater cut never breaks a law that a lesser one keeps: so the least third cut only falls
         * while the second one rises, and each pair of the first two needs no more than its least third.
         */
        void seekCuts(Log[] logs) {
            leastCost = NO_CUTS_COST;
            for (int cut0 = 0; cut0 <= ALL_TENTHS; cut0++) {
                int cut2 = ALL_TENTHS + 1;
                for (int cut1 = 0; cut1 <= ALL_TENTHS; cut1++) {
                    while (cut2 > 0 && isKept(logs, cut0, cut1, cut2 - 1)) {
                        cut2--;
                    }
                    if (cut2 <= ALL_TENTHS) {
                        offer(cut0, cut1, cut2);
                    }
                }
            }
        }

        /** Offers come in the document's order: only a lesser sum takes the place of an earlier one. */
        void offer(int cut0, int cut1, int cut2) {
            int cost = cut0 * prices[0] + cut1 * prices[1] + cut2 * prices[2];
            if (cost < leastCost) {
                leastCost = cost;
                cuts[0] = cut0;
                cuts[1] = cut1;
                cuts[2] = cut2;
            }
        }
    }
}

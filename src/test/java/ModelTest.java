import java.util.Random;

/** Runs of some 500 calls, drawn by fixed seeds, asked of the class and of the model: all answers are the same. */
public final class ModelTest {
    private static final int[] ODD = {-1, 3, 4, 9, 24, 25, 51, 100, 101, 1000, 1001,
        Integer.MIN_VALUE, Integer.MAX_VALUE};
    private static final int[] ROUGH = {0, 1, 7, 999, 1000, 32767, 32768, 65535, 65536, 999999, 1000000, 1000001, -1};

    private final Random random;
    private final WindBoxes x = new WindBoxes();
    private final Model m = new Model();
    /** How seldom an argument is drawn from the odd ones. */
    private final int odds;

    private ModelTest(long seed) {
        random = new Random(seed);
        odds = seed % 3 == 0 ? 12 : 60;
    }

    public static void main(String[] args) {
        for (long seed = 1; seed <= 240; seed++) {
            new ModelTest(seed).run();
        }
        Due.end();
    }

    private int draw(int low, int high) {
        if (random.nextInt(odds) == 0) {
            return ODD[random.nextInt(ODD.length)];
        }
        return low + random.nextInt(high - low + 1);
    }

    private void run() {
        int calls = 0;
        if (random.nextInt(4) != 0) {
            for (int wall = 0; wall < 24; wall++) {
                int w = draw(-100, 100);
                Due.same("wind", x.wind(wall, w), m.wind(wall, w));
                calls++;
            }
        }
        for (int source = 0; source < 3; source++) {
            calls += fill(source, source % 2);
        }
        while (calls < 512) {
            int kind = random.nextInt(28);
            if (kind == 27 && calls < 460) {
                calls += fill(random.nextInt(4), random.nextInt(2));
            } else if (kind < 9) {
                state(kind);
                calls++;
            } else {
                ask(kind);
                calls++;
            }
        }
    }

    /** A row for a source of box after box; now and then with an item that is not as told. */
    private int fill(int sheet, int lane) {
        Due.same("sheet", x.sheet(sheet, lane, 24), m.sheet(sheet, lane, 24));
        int top = lane == 0 ? 32767 : random.nextBoolean() ? 1000000 : 3000;
        for (int i = 0; i < 24; i++) {
            int v = random.nextInt(80) == 0 ? ROUGH[random.nextInt(ROUGH.length)] : random.nextInt(top + 1);
            Due.same("item", x.item(sheet, lane, i, v), m.item(sheet, lane, i, v));
        }
        int source = draw(0, 2);
        int box = draw(0, 8);
        Due.same("source", x.source(source, box, sheet, lane), m.source(source, box, sheet, lane));
        return 26;
    }

    private void state(int kind) {
        int a = draw(0, 3);
        int b = draw(0, 8);
        boolean is = random.nextInt(3) == 0;
        switch (kind) {
            case 0:
                int wall = draw(0, 23);
                int w = draw(-100, 100);
                Due.same("wind(" + wall + ", " + w + ")", x.wind(wall, w), m.wind(wall, w));
                break;
            case 1:
            case 2:
                int n = draw(1, random.nextInt(4) == 0 ? 50 : 6);
                int r = random.nextBoolean() ? draw(0, 20) : draw(0, 1000);
                Due.same("hours(" + n + ", " + r + ")", x.hours(n, r), m.hours(n, r));
                break;
            case 3:
                if (random.nextInt(4) == 0) {
                    Due.same("door(" + a + ", " + b + ")", x.door(a, b), m.door(a, b));
                }
                break;
            case 4:
                Due.same("lose(" + a + ", " + is + ")", x.lose(a, is), m.lose(a, is));
                break;
            case 5:
                Due.same("watch(" + a + ", " + !is + ")", x.watch(a, !is), m.watch(a, !is));
                break;
            case 6:
                int limit = limit(a);
                int most = draw(0, random.nextBoolean() ? 5 : 100);
                Due.same("law(" + limit + ", " + most + ")", x.law(limit, most), m.law(limit, most));
                break;
            case 7:
                int p = draw(0, random.nextBoolean() ? 3 : 1000);
                Due.same("price(" + a + ", " + p + ")", x.price(a, p), m.price(a, p));
                break;
            default:
                sheetCalls(a);
        }
    }

    /** Near what a door keeps, so that laws are kept here and broken there. */
    private int limit(int door) {
        long near = m.rank(Math.floorMod(door, 4), 1 + random.nextInt(5));
        if (near <= 0 || random.nextInt(8) == 0) {
            return draw(0, 1000000000);
        }
        return (int) Math.min(near * random.nextInt(11) / 10 + random.nextInt(3) - 1, Integer.MAX_VALUE);
    }

    private void sheetCalls(int sheet) {
        int lane = draw(0, 1);
        int n = draw(-1, 25);
        int v = ROUGH[random.nextInt(ROUGH.length)];
        Due.same("item", x.item(sheet, lane, n, v), m.item(sheet, lane, n, v));
        Due.same("source", x.source(1, 1, sheet, lane), m.source(1, 1, sheet, lane));
        if (random.nextInt(3) == 0) {
            Due.same("drop(" + sheet + ")", x.drop(sheet), m.drop(sheet));
        }
        if (random.nextInt(3) == 0) {
            Due.same("sheet", x.sheet(sheet, lane, n), m.sheet(sheet, lane, n));
        }
    }

    private void ask(int kind) {
        int a = draw(0, 3);
        int b = draw(0, 8);
        switch (kind) {
            case 9:
                Due.same("gives(" + b + ")", x.gives(b), m.gives(b));
                break;
            case 10:
                int wall = draw(0, 23);
                Due.same("still(" + wall + ")", x.still(wall), m.still(wall));
                break;
            case 11:
                Due.same("change()", x.change(), m.change());
                break;
            case 12:
            case 13:
                Due.same("grains(" + a + ", " + b + ")", x.grains(a, b), m.grains(a, b));
                break;
            case 14:
            case 15:
                int what = draw(0, 4);
                Due.same("total(" + a + ", " + what + ")", x.total(a, what), m.total(a, what));
                break;
            case 16:
            case 17:
                int i = draw(0, random.nextBoolean() ? 3 : 99);
                int share = draw(0, 3);
                Due.same("hour(" + a + ", " + i + ", " + share + ")", x.hour(a, i, share), m.hour(a, i, share));
                break;
            case 18:
                int one = draw(0, 1);
                Due.same("kept(" + a + ", " + one + ")", x.kept(a, one), m.kept(a, one));
                break;
            case 19:
                Due.same("mean(" + a + ")", x.mean(a), m.mean(a));
                break;
            case 20:
            case 21:
                int k = draw(1, random.nextBoolean() ? 5 : 100);
                Due.same("rank(" + a + ", " + k + ")", x.rank(a, k), m.rank(a, k));
                break;
            case 22:
            case 23:
                int w = draw(1, 24);
                Due.same("rolling(" + a + ", " + w + ")", x.rolling(a, w), m.rolling(a, w));
                break;
            default:
                Due.same("cheapest(" + a + ")", x.cheapest(a), m.cheapest(a));
        }
    }
}

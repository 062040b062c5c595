/** Promises 1 (a new object) to 5: winds, what boxes give, the still net and its change. */
public final class WindTest {
    private static final int BAD_WIND = -1001;
    private static final long BAD_STILL = -1000000001L;
    private static final long PARTS = 100352;

    public static void main(String[] args) {
        newObject();
        wind();
        gives();
        still();
        change();
        objectsAreApart();
        Due.end();
    }

    private static void newObject() {
        WindBoxes x = new WindBoxes();
        for (int wall = 0; wall < 24; wall++) {
            Due.same("new still(" + wall + ")", x.still(wall), 0);
        }
        Due.same("new change()", x.change(), 0);
        for (int box = 0; box < 9; box++) {
            Due.same("new gives(" + box + ")", x.gives(box), 0);
            for (int source = 0; source < 3; source++) {
                Due.same("new grains(" + source + ", " + box + ")", x.grains(source, box), 0);
            }
        }
        for (int i = 0; i < 4; i++) {
            Due.same("new drop(" + i + ")", x.drop(i), WindBoxes.NULL);
            Due.same("new kept(" + i + ", 0)", x.kept(i, 0), 0);
            Due.same("new kept(" + i + ", 1)", x.kept(i, 1), 0);
            Due.same("new mean(" + i + ")", x.mean(i), WindBoxes.NONE);
            Due.same("new rank(" + i + ", 1)", x.rank(i, 1), WindBoxes.NONE);
            Due.same("new rolling(" + i + ", 1)", x.rolling(i, 1), WindBoxes.NONE);
            Due.same("new hour(" + i + ", 0, 3)", x.hour(i, 0, 3), WindBoxes.BAD);
            Due.same("new lose(" + i + ", false)", x.lose(i, false), 0);
        }
        for (int source = 0; source < 3; source++) {
            for (int what = 0; what < 5; what++) {
                Due.same("new total(" + source + ", " + what + ")", x.total(source, what), 0);
            }
            Due.same("new price(" + source + ", 1)", x.price(source, 1), 1);
        }
        Due.same("new law(0, 0)", x.law(0, 0), 0);
        Due.same("new cheapest(3)", x.cheapest(3), 0);
        Due.same("new watch(0, false)", x.watch(0, false), 0);
        Due.same("new hours(1, 0)", x.hours(1, 0), 1);
        Due.same("no rates at first", x.total(0, 0) + x.total(1, 0) + x.total(2, 0), 0);
        Due.same("doors stand in box 0 and keep", x.kept(3, 1), 1);
    }

    private static void wind() {
        WindBoxes x = new WindBoxes();
        for (int wall = 0; wall < 24; wall++) {
            Due.same("wind(" + wall + ", 100)", x.wind(wall, 100), 0);
            Due.same("wind(" + wall + ", -100)", x.wind(wall, -100), 100);
            Due.same("wind(" + wall + ", 101)", x.wind(wall, 101), BAD_WIND);
            Due.same("wind(" + wall + ", -101)", x.wind(wall, -101), BAD_WIND);
            Due.same("a refused wind changes nothing", x.wind(wall, wall), -100);
        }
        int[] wrong = {-1, 24, 25, Integer.MIN_VALUE, Integer.MAX_VALUE};
        for (int wall : wrong) {
            Due.same("wind(" + wall + ", 0)", x.wind(wall, 0), BAD_WIND);
        }
        Due.same("wind(0, MIN)", x.wind(0, Integer.MIN_VALUE), BAD_WIND);
        Due.same("wind(0, MAX)", x.wind(0, Integer.MAX_VALUE), BAD_WIND);
        for (int wall = 0; wall < 24; wall++) {
            Due.same("each wall has a wind of its own", x.wind(wall, 0), wall);
        }
    }

    private static void gives() {
        for (int box = 0; box < 9; box++) {
            int left = 4 * (box / 3) + box % 3;
            int below = 12 + box;
            int[] walls = {left, left + 1, below, below + 3};
            int[] winds = {-1, 20, -50, 100};
            WindBoxes x = new WindBoxes();
            int want = 0;
            for (int i = 0; i < 4; i++) {
                x.wind(walls[i], winds[i]);
                want += i % 2 == 0 ? -winds[i] : winds[i];
                Due.same("gives(" + box + ") by " + (i + 1) + " walls", x.gives(box), want);
            }
            x.wind(left, -100);
            x.wind(left + 1, 100);
            x.wind(below, -100);
            Due.same("the most that gives(" + box + ") can answer", x.gives(box), 400);
        }
        WindBoxes x = new WindBoxes();
        Due.same("gives(-1)", x.gives(-1), BAD_WIND);
        Due.same("gives(9)", x.gives(9), BAD_WIND);
        Due.same("gives(MAX)", x.gives(Integer.MAX_VALUE), BAD_WIND);
        Due.same("gives(MIN)", x.gives(Integer.MIN_VALUE), BAD_WIND);
    }

    private static void still() {
        WindBoxes x = new WindBoxes();
        int[] wrong = {-1, 24, Integer.MIN_VALUE, Integer.MAX_VALUE};
        for (int wall : wrong) {
            Due.same("still(" + wall + ")", x.still(wall), BAD_STILL);
        }
        // round the middle crossing of boxes 0, 1, 3, 4: already still
        x.wind(1, 7);
        x.wind(16, 7);
        x.wind(5, -7);
        x.wind(15, -7);
        Due.same("a round of winds is left as it is", x.change(), 0);
        Due.same("still(16)", x.still(16), 7 * PARTS);
        Due.same("still(15)", x.still(15), -7 * PARTS);
        x = new WindBoxes();
        x.wind(6, 1);
        // h falls by 84/224 in box 4, which gives 1, and rises by 74/224 in box 5, less what they do to each other
        Due.same("still(6) of one wind", x.still(6), PARTS - 448 * (84 - 28 + 74 - 28));
        for (int wall = 0; wall < 24; wall++) {
            x.wind(wall, wall % 2 == 0 ? 100 - wall : wall - 100);
        }
        stillNetGivesNothing(x);
    }

    private static void stillNetGivesNothing(WindBoxes x) {
        for (int box = 0; box < 9; box++) {
            int left = 4 * (box / 3) + box % 3;
            long out = x.still(left + 1) - x.still(left) + x.still(15 + box) - x.still(12 + box);
            Due.same("what the still net gives at " + box, out, 0);
        }
    }

    private static void change() {
        WindBoxes x = new WindBoxes();
        x.wind(0, -1);
        // box 0 gives 1: the least sum of squares is its own h, 67/224
        Due.same("change() of one wind", x.change(), 67 * 448 * PARTS);
        x.wind(0, 0);
        Due.same("change() of none", x.change(), 0);
        for (int box = 0; box < 9; box += 2) {
            int left = 4 * (box / 3) + box % 3;
            x.wind(left, -100);
            x.wind(left + 1, 100);
            x.wind(12 + box, -100);
            x.wind(15 + box, 100);
        }
        long sum = 0;
        for (int wall = 0; wall < 24; wall++) {
            int was = x.wind(wall, 0);
            x.wind(wall, was);
            long by = x.still(wall) - was * PARTS;
            sum += by * by;
        }
        Due.same("change() of the greatest winds", x.change(), sum);
        Due.holds("and it is above what an int holds", sum > Integer.MAX_VALUE);
    }

    private static void objectsAreApart() {
        WindBoxes x = new WindBoxes();
        WindBoxes y = new WindBoxes();
        x.wind(3, 50);
        x.price(0, 9);
        x.sheet(0, 0, 3);
        x.hours(2, 0);
        Due.same("another object's wind", y.wind(3, 0), 0);
        Due.same("another object's net", y.still(3), 0);
        Due.same("another object's price", y.price(0, 1), 1);
        Due.same("another object's sheet", y.drop(0), WindBoxes.NULL);
        Due.same("another object's time", y.hours(1, 0), 1);
    }
}

/** The edges that the document names for winds: Terms 1 and promises 1 to 5, sentence by sentence. */
public final class EdgeWindTest {
    private static final int MIN = Integer.MIN_VALUE, MAX = Integer.MAX_VALUE;
    private static final int BAD_WIND = -1001;
    private static final long BAD_STILL = -1000000001L;
    private static final long PARTS = 100352;

    public static void main(String[] args) {
        boxes();
        walls();
        standingWalls();
        lyingWalls();
        windRange();
        windsAtFirst();
        windWays();
        boxGives();
        heightOutside();
        eachBoxGivesNothing();
        leastChange();
        fractions();
        newObject();
        windAnswersWhatItWas();
        windBad();
        givesByTheWindsAsTheyAre();
        stillTimesParts();
        changeAtTheEdges();
        Due.end();
    }

    private static void boxes() {
        Due.sentence("BOXES 0 .. 8 lie 3 by 3");
        WindBoxes x = new WindBoxes();
        Due.same("gives(0)", x.gives(0), 0);
        Due.same("gives(8)", x.gives(8), 0);
        for (int box : new int[] {-1, 9, 10, MIN, MAX}) {
            Due.same("gives(" + box + ")", x.gives(box), BAD_WIND);
        }
    }

    private static void walls() {
        Due.sentence("WALLS 0 .. 23");
        WindBoxes x = new WindBoxes();
        Due.same("wind(0, 5)", x.wind(0, 5), 0);
        Due.same("wind(23, 6)", x.wind(23, 6), 0);
        Due.same("wind(0, 0)", x.wind(0, 0), 5);
        Due.same("wind(23, 0)", x.wind(23, 0), 6);
        Due.same("still(0)", x.still(0), 0);
        Due.same("still(23)", x.still(23), 0);
        for (int wall : new int[] {-1, 24, 25, MIN, MAX}) {
            Due.same("wind(" + wall + ", 0)", x.wind(wall, 0), BAD_WIND);
            Due.same("still(" + wall + ")", x.still(wall), BAD_STILL);
        }
    }

    /** The boxes that a wind of 1 at a wall is out of and into, -1 for outside; no other box gives anything. */
    private static void oneWind(int wall, int out, int into) {
        WindBoxes x = new WindBoxes();
        x.wind(wall, 1);
        for (int box = 0; box < 9; box++) {
            int want = box == out ? 1 : box == into ? -1 : 0;
            Due.same("gives(" + box + ") by wall " + wall, x.gives(box), want);
        }
    }

    private static void standingWalls() {
        Due.sentence("wall 4 y + x (x 0 .. 3) is to the left of box (x, y), to the right of (x - 1, y)");
        int[] toTheLeft = {-1, 0, 1, 2, -1, 3, 4, 5, -1, 6, 7, 8};
        int[] toTheRight = {0, 1, 2, -1, 3, 4, 5, -1, 6, 7, 8, -1};
        for (int wall = 0; wall < 12; wall++) {
            oneWind(wall, toTheLeft[wall], toTheRight[wall]);
        }
    }

    private static void lyingWalls() {
        Due.sentence("wall 12 + 3 y + x (y 0 .. 3) is below box (x, y), above (x, y - 1)");
        int[] below = {-1, -1, -1, 0, 1, 2, 3, 4, 5, 6, 7, 8};
        int[] above = {0, 1, 2, 3, 4, 5, 6, 7, 8, -1, -1, -1};
        for (int i = 0; i < 12; i++) {
            oneWind(12 + i, below[i], above[i]);
        }
    }

    private static void windRange() {
        Due.sentence("Its WIND (-100 .. 100");
        WindBoxes x = new WindBoxes();
        for (int wall = 0; wall < 24; wall++) {
            Due.same("wind(" + wall + ", 100)", x.wind(wall, 100), 0);
            Due.same("wind(" + wall + ", 101)", x.wind(wall, 101), BAD_WIND);
            Due.same("wind(" + wall + ", -100)", x.wind(wall, -100), 100);
            Due.same("wind(" + wall + ", -101)", x.wind(wall, -101), BAD_WIND);
            Due.same("wind(" + wall + ", 0)", x.wind(wall, 0), -100);
        }
        for (int w : new int[] {1000, -1000, 65536, MIN, MAX}) {
            Due.same("wind(11, " + w + ")", x.wind(11, w), BAD_WIND);
        }
    }

    private static void windsAtFirst() {
        Due.sentence("0 at first)");
        for (int wall = 0; wall < 24; wall++) {
            Due.same("the first wind(" + wall + ", 9)", new WindBoxes().wind(wall, 9), 0);
        }
    }

    private static void windWays() {
        Due.sentence("is to the right, or up");
        WindBoxes x = new WindBoxes();
        x.wind(5, -1);
        Due.same("a wind below 0 goes to the left, out of box 4", x.gives(4), 1);
        Due.same("into box 3", x.gives(3), -1);
        x.wind(5, 0);
        x.wind(16, -1);
        Due.same("or down, out of box 4", x.gives(4), 1);
        Due.same("into box 1", x.gives(1), -1);
    }

    /** The walls to the left and right of a box, below and above it. */
    private static int[] wallsOf(int box) {
        int left = 4 * (box / 3) + box % 3;
        return new int[] {left, left + 1, 12 + box, 15 + box};
    }

    private static void boxGives() {
        Due.sentence("What a BOX GIVES is all WINDS out of it less all into it.");
        for (int box = 0; box < 9; box++) {
            WindBoxes x = new WindBoxes();
            int[] walls = wallsOf(box);
            for (int i = 0; i < 4; i++) {
                x.wind(walls[i], i % 2 == 0 ? -100 : 100);
            }
            Due.same("the most of box " + box, x.gives(box), 400);
            for (int i = 0; i < 4; i++) {
                x.wind(walls[i], i % 2 == 0 ? 100 : -100);
            }
            Due.same("the least of box " + box, x.gives(box), -400);
            for (int i = 0; i < 4; i++) {
                x.wind(walls[i], 100);
            }
            Due.same("as much in as out of box " + box, x.gives(box), 0);
        }
    }

    private static void heightOutside() {
        Due.sentence("numbers h of BOXES (0 outside)");
        WindBoxes x = new WindBoxes();
        x.wind(0, -1);
        // box 0 gives 1: its h is -67/224, that of outside 0
        Due.same("still(0)", x.still(0), -PARTS + 67 * 448);
        Due.same("still(12), the other way out of box 0", x.still(12), 67 * 448);
        Due.same("still(11), out of box 8 to the right", x.still(11), -3 * 448);
        Due.same("still(23), out of box 8 upwards", x.still(23), -3 * 448);
    }

    /** Winds of 100 out of boxes 0, 2, 4, 6, 8 and into 1, 3, 5, 7: all boxes give 400 or -400. */
    private static WindBoxes chequered(int w) {
        WindBoxes x = new WindBoxes();
        for (int box = 0; box < 9; box++) {
            int[] walls = wallsOf(box);
            for (int i = 0; i < 4; i++) {
                x.wind(walls[i], i % 2 == box % 2 ? -w : w);
            }
        }
        return x;
    }

    private static void givesNothing(String when, WindBoxes x) {
        for (int box = 0; box < 9; box++) {
            int[] walls = wallsOf(box);
            long out = x.still(walls[1]) - x.still(walls[0]) + x.still(walls[3]) - x.still(walls[2]);
            Due.same(when + ": what the still net gives at " + box, out, 0);
        }
    }

    private static WindBoxes oneLoneWind(int wall) {
        WindBoxes x = new WindBoxes();
        x.wind(wall, wall % 2 == 0 ? 100 : -100);
        return x;
    }

    private static void eachBoxGivesNothing() {
        Due.sentence("such that each BOX GIVES 0");
        Due.same("chequered gives(4)", chequered(100).gives(4), 400);
        Due.same("chequered gives(5)", chequered(100).gives(5), -400);
        givesNothing("the greatest winds", chequered(100));
        givesNothing("the greatest winds the other way", chequered(-100));
        for (int wall = 0; wall < 24; wall++) {
            givesNothing("one wind at " + wall, oneLoneWind(wall));
        }
    }

    private static long[] changesOf(WindBoxes x) {
        long[] by = new long[24];
        for (int wall = 0; wall < 24; wall++) {
            int was = x.wind(wall, 0);
            x.wind(wall, was);
            by[wall] = x.still(wall) - was * PARTS;
        }
        return by;
    }

    /**
     * All other still winds come from these by rounds: along a row or column from outside to outside, and
     * in at one outer wall and out at another of a corner. No round can make the squares less only if the
     * changes along it sum to 0.
     */
    private static void leastChange(String when, long[] by) {
        for (int i = 0; i < 3; i++) {
            int row = 4 * i;
            int column = 12 + i;
            Due.same(when + ": along row " + i, by[row] + by[row + 1] + by[row + 2] + by[row + 3], 0);
            Due.same(when + ": along column " + i, by[column] + by[column + 3] + by[column + 6] + by[column + 9], 0);
        }
        for (int y = 0; y < 2; y++) {
            for (int x = 0; x < 2; x++) {
                int stands = 4 * y + x + 1;
                int lies = 15 + 3 * y + x;
                long round = by[stands] + by[lies + 1] - by[stands + 4] - by[lies];
                Due.same(when + ": round the crossing " + x + ", " + y, round, 0);
            }
        }
        Due.same(when + ": round the corner of box 0", by[0] - by[12], 0);
        Due.same(when + ": round the corner of box 2", by[3] + by[14], 0);
        Due.same(when + ": round the corner of box 6", by[8] + by[21], 0);
        Due.same(when + ": round the corner of box 8", by[11] - by[23], 0);
        for (int i = 0; i < 2; i++) {
            int row = 4 * i;
            int column = 12 + i;
            Due.same(when + ": left rim " + i, by[row] + by[15 + 3 * i] - by[row + 4], 0);
            Due.same(when + ": right rim " + i, by[row + 3] - by[17 + 3 * i] - by[row + 7], 0);
            Due.same(when + ": lower rim " + i, by[column] + by[1 + i] - by[column + 1], 0);
            Due.same(when + ": upper rim " + i, by[column + 9] - by[9 + i] - by[column + 10], 0);
        }
    }

    private static void leastChange() {
        Due.sentence("no other winds by which no BOX gives anything have a lesser sum of squares of changes");
        leastChange("the greatest winds", changesOf(chequered(100)));
        for (int wall = 0; wall < 24; wall++) {
            leastChange("one wind at " + wall, changesOf(oneLoneWind(wall)));
        }
    }

    private static void fractions() {
        Due.sentence("All are fractions by 100352.");
        WindBoxes x = new WindBoxes();
        x.wind(0, -1);
        // the least parts that there are: h of boxes 6 and 8 as told by box 0, 7 and 3 of 224
        Due.same("still(10): from box 7 to 8", x.still(10), (3 - 6) * 448);
        Due.same("still(9): from box 6 to 7", x.still(9), (6 - 7) * 448);
    }

    private static void newObject() {
        WindBoxes x = new WindBoxes();
        Due.sentence("No wind");
        Due.same("change()", x.change(), 0);
        Due.sentence("no stuff");
        for (int source = 0; source < 3; source++) {
            for (int what = 0; what < 5; what++) {
                Due.same("total(" + source + ", " + what + ")", x.total(source, what), 0);
            }
        }
        Due.sentence("nothing in SHEETS");
        for (int sheet = 0; sheet < 4; sheet++) {
            Due.same("drop(" + sheet + ")", x.drop(sheet), -11);
        }
        Due.sentence("THE TIME 0");
        Due.same("hours(1, 0)", x.hours(1, 0), 1);
        Due.sentence("no DOOR watched");
        for (int door = 0; door < 4; door++) {
            Due.same("watch(" + door + ", true)", new WindBoxes().watch(door, true), 1);
        }
        Due.same("watch(0, false)", new WindBoxes().watch(0, false), 0);
    }

    private static void windAnswersWhatItWas() {
        Due.sentence("The WIND at a WALL: what it was.");
        WindBoxes x = new WindBoxes();
        x.wind(7, -1);
        Due.same("a wind of -1 is no refusal", x.wind(7, -100), -1);
        Due.same("nor is -100", x.wind(7, -100), -100);
        Due.same("the same wind again", x.wind(7, 100), -100);
    }

    private static void windBad() {
        Due.sentence("BAD less 1000 (-1001).");
        WindBoxes x = new WindBoxes();
        x.wind(3, 50);
        Due.same("wind(3, 101)", x.wind(3, 101), -1001);
        Due.same("wind(24, 101)", x.wind(24, 101), -1001);
        Due.same("gives(9)", x.gives(9), -1001);
        Due.same("the wind is as it was", x.gives(2), 50);
        Due.same("the net too", x.still(3), 50 * PARTS - 50 * 67 * 448);
    }

    private static void givesByTheWindsAsTheyAre() {
        Due.sentence("What a BOX GIVES by the WINDS as they are.");
        WindBoxes x = new WindBoxes();
        x.wind(0, 1);
        Due.same("-1 is no refusal", x.gives(0), -1);
        x.hours(1, 0);
        Due.same("winds are not made still by hours", x.gives(0), -1);
        x.still(0);
        x.change();
        Due.same("nor by looking at the net", x.gives(0), -1);
    }

    private static void stillTimesParts() {
        Due.sentence("THE STILL NET at a WALL, times 100352. BAD less 1000000000 (-1000000001).");
        WindBoxes x = new WindBoxes();
        for (int wall = 0; wall < 24; wall++) {
            x.wind(wall, -100);
        }
        for (int wall = 0; wall < 24; wall++) {
            Due.same("still(" + wall + ") of winds that are still", x.still(wall), -100 * PARTS);
        }
        Due.same("still(24)", x.still(24), -1000000001L);
        Due.same("still(-1)", x.still(-1), -1000000001L);
    }

    private static void changeAtTheEdges() {
        Due.sentence("The sum of the squares of all changes from the WINDS to THE STILL NET");
        WindBoxes x = new WindBoxes();
        for (int wall = 0; wall < 24; wall++) {
            x.wind(wall, 100);
        }
        Due.same("still winds, the greatest, are not changed", x.change(), 0);
        // 400 times 400 by 308/224, the signed sum over the table, by 100352 twice
        Due.same("all boxes give the most", chequered(100).change(), 220000L * PARTS * PARTS);
        Due.same("or take the most", chequered(-100).change(), 220000L * PARTS * PARTS);
    }
}

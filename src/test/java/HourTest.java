/** Promises 10 to 14: doors, lost hours, the passing of hours, grains and totals. */
public final class HourTest {
    private static final int BAD = -1, NONE = -4;
    private static final int MIN = Integer.MIN_VALUE, MAX = Integer.MAX_VALUE;

    public static void main(String[] args) {
        door();
        lose();
        hours();
        day();
        fallOut();
        blow();
        totals();
        Due.end();
    }

    private static void door() {
        WindBoxes x = new WindBoxes();
        int[][] bad = {{-1, 0}, {4, 0}, {0, -1}, {0, 9}, {MIN, 0}, {0, MAX}};
        for (int[] b : bad) {
            Due.same("door(" + b[0] + ", " + b[1] + ")", x.door(b[0], b[1]), BAD);
        }
        Due.steady(x, 0, 5, 100);
        Due.same("door(2, 5)", x.door(2, 5), 0);
        x.lose(2, true);
        x.hours(2, 0);
        x.lose(2, false);
        x.hours(1, 0);
        Due.same("hour(2, 0, 3)", x.hour(2, 0, 3), 300);
        Due.same("a refused door changes nothing", x.door(2, 9), BAD);
        Due.same("kept(2, 0)", x.kept(2, 0), 3);
        Due.same("LOST hours are kept too", x.door(2, 5), 3);
        Due.same("what was kept is gone", x.kept(2, 0), 0);
        Due.same("what was kept is gone", x.hour(2, 0, 3), BAD);
        Due.same("what was kept is gone", x.mean(2), NONE);
        Due.same("other doors keep theirs", x.kept(1, 0), 3);
        x.hours(50, 0);
        x.hours(50, 0);
        x.hours(1, 0);
        Due.same("no more than 100 are kept", x.door(1, 3), 100);
        Due.same("nor by another", x.door(2, 4), 100);
        Due.same("a door that moved twice", x.door(2, 4), 0);
    }

    private static void lose() {
        WindBoxes x = new WindBoxes();
        Due.same("lose(-1, true)", x.lose(-1, true), BAD);
        Due.same("lose(4, true)", x.lose(4, true), BAD);
        for (int door = 0; door < 4; door++) {
            Due.same("lose(" + door + ", true)", x.lose(door, true), 0);
            Due.same("lose(" + door + ", true) again", x.lose(door, true), 1);
            x.hours(1, 0);
            Due.same("hour of a LOST door", x.hour(door, 0, 3), NONE);
            Due.same("share of a LOST door", x.hour(door, 0, 1), NONE);
            Due.same("a door stays LOST where it moves", x.door(door, 1), 2 * door + 1);
            Due.same("lose(" + door + ", false)", x.lose(door, false), 1);
            x.hours(1, 0);
            Due.same("hour of a door that was LOST", x.hour(door, 0, 3), 0);
            Due.same("lose(" + door + ", false) again", x.lose(door, false), 0);
            x.door(door, 0);
        }
    }

    private static void hours() {
        WindBoxes x = new WindBoxes();
        int[][] bad = {{0, 0}, {-1, 0}, {51, 0}, {1, -1}, {1, 1001}, {MIN, 0}, {MAX, 0}, {1, MIN}, {1, MAX}};
        for (int[] b : bad) {
            Due.same("hours(" + b[0] + ", " + b[1] + ")", x.hours(b[0], b[1]), BAD);
        }
        Due.same("refused hours do not pass", x.kept(0, 0), 0);
        Due.same("hours(50, 1000)", x.hours(50, 1000), 50);
        Due.same("hours(1, 0)", x.hours(1, 0), 51);
        for (int i = 2; i < 460; i++) {
            x.hours(50, 500);
        }
        Due.same("THE TIME goes on", x.hours(50, 0), 51 + 459 * 50);
    }

    /** Each hour of the day has its own rate, and the day comes again. */
    private static void day() {
        WindBoxes x = new WindBoxes();
        int[] rates = new int[24];
        for (int i = 0; i < 24; i++) {
            rates[i] = 1 << Math.min(i, 19);
        }
        Due.daily(x, 2, 0, rates);
        long sum = 0;
        for (int i = 0; i < 60; i++) {
            x.hours(1, 1000);
            sum += rates[i % 24];
            Due.same("given off after hour " + i, x.total(2, 0), sum);
        }
    }

    private static void fallOut() {
        WindBoxes x = new WindBoxes();
        Due.daily(x, 0, 4, 1999, 0);
        x.hours(1, 1);
        Due.same("washed 1999 / 1000, cut down", x.total(0, 1), 1);
        Due.same("laid 1998 / 1000, cut down", x.total(0, 2), 1);
        Due.same("left", x.grains(0, 4), 1997);
        x.hours(1, 500);
        Due.same("washed 998 more", x.total(0, 1), 999);
        Due.same("of 999 none is laid", x.total(0, 2), 1);
        Due.same("left", x.grains(0, 4), 999);
        x.hours(1, 1000);
        Due.same("all is washed out", x.total(0, 1), 1998);
        Due.same("nothing is left", x.total(0, 4), 0);
        Due.daily(x, 1, 3, 0, 0, 0, 2000, 0);
        x.hours(1, 500);
        Due.same("washed ahead of laid", x.total(1, 1), 1000);
        Due.same("laid is of what is left", x.total(1, 2), 1);
    }

    private static void blow() {
        WindBoxes x = new WindBoxes();
        for (int wall = 4; wall < 8; wall++) {
            x.wind(wall, 100);
        }
        Due.daily(x, 0, 3, 1000, 0);
        x.hours(1, 0);
        Due.same("999 left, a tenth goes", x.grains(0, 3), 900);
        Due.same("it comes to the right", x.grains(0, 4), 99);
        Due.same("and not on in the same hour", x.grains(0, 5), 0);
        x.hours(1, 0);
        Due.same("900 - 90", x.grains(0, 3), 810);
        Due.same("99 - 9 + 90", x.grains(0, 4), 180);
        Due.same("9", x.grains(0, 5), 9);
        for (int wall = 4; wall < 8; wall++) {
            x.wind(wall, -100);
        }
        x.hours(1, 0);
        Due.same("back: 810 - 81 + 18", x.grains(0, 3), 747);
        Due.same("81 blown away to the left", x.total(0, 3), 81);
        Due.same("nothing comes back from outside", x.grains(0, 5), 9);
        x.hours(1, 1000);
        Due.same("what is blown away is not washed out", x.total(0, 3), 81);
        upAndDown();
        throughEachWall();
    }

    private static void upAndDown() {
        WindBoxes x = new WindBoxes();
        for (int wall = 13; wall < 24; wall += 3) {
            x.wind(wall, 50);
        }
        Due.daily(x, 1, 7, 1000, 0);
        Due.daily(x, 2, 1, 100, 0);
        x.hours(1, 0);
        Due.same("49 of 999 go up and away", x.total(1, 3), 49);
        Due.same("5 of 100 go up", x.grains(2, 4), 5);
        for (int wall = 13; wall < 24; wall += 3) {
            x.wind(wall, -50);
        }
        x.hours(1, 0);
        Due.same("47 of 950 go down", x.grains(1, 4), 47);
        Due.same("4 of 95 go down and away", x.total(2, 3), 4);
    }

    /** A wind out of each box at each of its walls, one at a time: the still net there takes its part. */
    private static void throughEachWall() {
        for (int box = 0; box < 9; box++) {
            int left = 4 * (box / 3) + box % 3;
            int[] walls = {left, left + 1, 12 + box, 15 + box};
            int[] there = {box % 3 == 0 ? -1 : box - 1, box % 3 == 2 ? -1 : box + 1,
                box < 3 ? -1 : box - 3, box > 5 ? -1 : box + 3};
            for (int i = 0; i < 4; i++) {
                WindBoxes x = new WindBoxes();
                x.wind(walls[i], i % 2 == 0 ? -100 : 100);
                long go = 999L * Math.abs(x.still(walls[i])) / 100352000;
                Due.holds("the still net goes out at wall " + walls[i], go > 0);
                Due.daily(x, 1, box, 1000, 0);
                x.hours(1, 0);
                long came = there[i] < 0 ? x.total(1, 3) : x.grains(1, there[i]);
                Due.same("through wall " + walls[i] + " from box " + box, came, go);
            }
        }
    }

    private static void totals() {
        WindBoxes x = new WindBoxes();
        int[][] bad = {{-1, 0}, {3, 0}, {0, -1}, {0, 5}, {MIN, 0}, {0, MAX}};
        for (int[] b : bad) {
            Due.same("total(" + b[0] + ", " + b[1] + ")", x.total(b[0], b[1]), BAD);
        }
        int[][] worse = {{-1, 0}, {3, 0}, {0, -1}, {0, 9}, {MAX, 0}, {0, MIN}};
        for (int[] b : worse) {
            Due.same("grains(" + b[0] + ", " + b[1] + ")", x.grains(b[0], b[1]), BAD);
        }
        for (int wall = 0; wall < 24; wall++) {
            x.wind(wall, (wall * 37) % 201 - 100);
        }
        for (int source = 0; source < 3; source++) {
            Due.steady(x, source, 4 * source, 1000000 - source);
        }
        // 8 times 46 calls and some 110 more: within the 512 that an object is promised to answer
        for (int i = 0; i < 8; i++) {
            x.hours(50, i % 7);
            for (int source = 0; source < 3; source++) {
                nothingIsMissing(x, source);
            }
        }
    }

    private static void nothingIsMissing(WindBoxes x, int source) {
        long inBoxes = 0;
        for (int box = 0; box < 9; box++) {
            long grains = x.grains(source, box);
            Due.holds("grains are not below 0", grains >= 0);
            inBoxes += grains;
        }
        Due.same("total(" + source + ", 4)", x.total(source, 4), inBoxes);
        Due.same("the sum is kept to the last grain", x.total(source, 0),
            x.total(source, 1) + x.total(source, 2) + x.total(source, 3) + inBoxes);
    }
}

/** The edges that the document names for hours: Terms 2 and promises 10 to 14, sentence by sentence. */
public final class EdgeHourTest {
    private static final int BAD = -1, NONE = -4;
    private static final int MIN = Integer.MIN_VALUE, MAX = Integer.MAX_VALUE;

    public static void main(String[] args) {
        eachSourceForItself();
        eachBoxForItself();
        ratesAtFirst();
        greatestRate();
        wetRange();
        rateComesFirst();
        hourOfTheDay();
        washed();
        laid();
        throughWallsOutOnly();
        partsThatGo();
        fractionsThatGo();
        eachWallTakesOfTheSame();
        atOnceForAllBoxes();
        throughOuterWalls();
        neverAllCanGo();
        timeIsOneMore();
        doorsAtFirst();
        numberAndShares();
        lostDoorWritesNothing();
        latest100();
        lostOnesAreKeptToo();
        doorAnswersHours();
        doorBad();
        loseAnswersWhatItWas();
        loseBad();
        hoursRange();
        grainsBad();
        totalsOfEachKind();
        totalBad();
        sumKeptOver512Calls();
        Due.end();
    }

    private static void eachSourceForItself() {
        Due.sentence("in whole grains, each SOURCE's for itself");
        WindBoxes x = new WindBoxes();
        for (int source = 0; source < 3; source++) {
            Due.daily(x, source, 4, 999, 0);
        }
        x.hours(1, 0);
        for (int source = 0; source < 3; source++) {
            Due.same("2997 grains, but of none 1000: total(" + source + ", 2)", x.total(source, 2), 0);
        }
        x.hours(1, 1);
        Due.same("and none is washed out", x.total(0, 1) + x.total(1, 1) + x.total(2, 1), 0);
    }

    private static void eachBoxForItself() {
        Due.sentence("then in each BOX, with m grains");
        WindBoxes x = new WindBoxes();
        Due.daily(x, 0, 0, 999, 999);
        x.hours(1, 0);
        Due.daily(x, 0, 8, 999, 999);
        x.hours(1, 1);
        Due.same("1998 grains, but in no box 1000: washed", x.total(0, 1), 0);
        Due.same("laid", x.total(0, 2), 0);
        x.hours(1, 1000);
        Due.same("washed out of the first box and the last", x.total(0, 1), 1998);
    }

    private static void ratesAtFirst() {
        Due.sentence("has RATES for hours of the day 0 .. 23 (..; 0 at first)");
        WindBoxes x = new WindBoxes();
        x.hours(50, 0);
        for (int source = 0; source < 3; source++) {
            Due.same("total(" + source + ", 0)", x.total(source, 0), 0);
        }
    }

    private static void greatestRate() {
        Due.sentence("RATES .. (0 .. 1000000");
        WindBoxes x = new WindBoxes();
        Due.steady(x, 2, 8, 1000000);
        x.hours(50, 1000);
        Due.same("total(2, 0)", x.total(2, 0), 50000000);
        Due.same("total(2, 1)", x.total(2, 1), 50000000);
    }

    private static void wetRange() {
        Due.sentence("AN HOUR of wet r (0 .. 1000 thousandths)");
        WindBoxes x = new WindBoxes();
        Due.daily(x, 0, 0, 900, 0);
        Due.same("hours(1, 0)", x.hours(1, 0), 1);
        Due.same("a dry hour washes nothing out", x.total(0, 1), 0);
        for (int r : new int[] {-1, 1001, MIN, MAX}) {
            Due.same("hours(1, " + r + ")", x.hours(1, r), BAD);
        }
        Due.same("hours(1, 1000)", x.hours(1, 1000), 2);
        Due.same("the wettest washes all out", x.total(0, 1), 900);
        Due.same("nothing is left", x.grains(0, 0), 0);
    }

    private static void rateComesFirst() {
        Due.sentence("first its RATE at that hour of the day .. is added in its BOX");
        WindBoxes x = new WindBoxes();
        Due.daily(x, 1, 3, 2000, 0);
        x.hours(1, 500);
        Due.same("washed in the hour that it came in", x.total(1, 1), 1000);
        Due.same("laid too", x.total(1, 2), 1);
        Due.same("left", x.grains(1, 3), 999);
    }

    private static void hourOfTheDay() {
        Due.sentence("(THE TIME by 24, what is left)");
        WindBoxes x = new WindBoxes();
        int[] rates = new int[24];
        rates[0] = 1;
        rates[23] = 100;
        Due.daily(x, 0, 0, rates);
        Due.same("hours(1, 0)", x.hours(1, 0), 1);
        Due.same("hour 0", x.total(0, 0), 1);
        x.hours(22, 0);
        Due.same("hours 1 to 22", x.total(0, 0), 1);
        x.hours(1, 0);
        Due.same("hour 23", x.total(0, 0), 101);
        x.hours(1, 0);
        Due.same("hour 24 is 0 again", x.total(0, 0), 102);
        x.hours(22, 0);
        Due.same("hours 25 to 46", x.total(0, 0), 102);
        x.hours(50, 0);
        Due.same("hours 47 to 96: 47, 48, 71, 72, 95, 96", x.total(0, 0), 102 + 303);
    }

    /** What is washed out, laid down and left of so many grains in one still hour of this wet. */
    private static void oneHour(int grains, int wet, int wash, int lay) {
        WindBoxes x = new WindBoxes();
        Due.daily(x, 1, 5, grains, 0);
        x.hours(1, wet);
        String when = grains + " grains, wet " + wet + ": ";
        Due.same(when + "washed", x.total(1, 1), wash);
        Due.same(when + "laid", x.total(1, 2), lay);
        Due.same(when + "left", x.grains(1, 5), grains - wash - lay);
    }

    private static void washed() {
        Due.sentence("m r / 1000 of them are WASHED out (all divisions cut down)");
        int[][] rows = {{0, 1000, 0}, {1, 999, 0}, {1, 1000, 1}, {2, 499, 0}, {2, 500, 1}, {2, 999, 1}, {999, 1, 0},
            {999, 999, 998}, {500, 1, 0}, {1000, 999, 999}, {1000, 1000, 1000}, {1999, 500, 999}, {7, 143, 1},
            {7, 142, 0}};
        for (int[] row : rows) {
            oneHour(row[0], row[1], row[2], (row[0] - row[2]) / 1000);
        }
        oneHour(1000, 1, 1, 0);
        oneHour(1000000, 1000, 1000000, 0);
        oneHour(1000000, 999, 999000, 1);
    }

    private static void laid() {
        Due.sentence("of those that are left the thousandth part is LAID down");
        oneHour(999, 0, 0, 0);
        oneHour(1000, 0, 0, 1);
        oneHour(1999, 0, 0, 1);
        oneHour(2000, 0, 0, 2);
        oneHour(1000000, 0, 0, 1000);
        oneHour(1001, 1, 1, 1);
        oneHour(2000, 500, 1000, 1);
        oneHour(2001, 500, 1000, 1);
        oneHour(1998, 500, 999, 0);
    }

    /** A round of winds from box 3 to 4, up to 7, back to 6 and down: still as it is. */
    private static WindBoxes round(int w) {
        WindBoxes x = new WindBoxes();
        x.wind(5, w);
        x.wind(19, w);
        x.wind(9, -w);
        x.wind(18, -w);
        return x;
    }

    private static void throughWallsOutOnly() {
        Due.sentence("through each of its four WALLS through which THE STILL NET goes out");
        WindBoxes x = round(100);
        Due.daily(x, 0, 3, 100, 0);
        x.hours(1, 0);
        Due.same("out at the right", x.grains(0, 4), 10);
        Due.same("nothing where the wind comes in", x.grains(0, 6), 0);
        Due.same("nothing where no wind goes", x.grains(0, 0) + x.total(0, 3), 0);
        Due.same("left", x.grains(0, 3), 90);
        x = round(-100);
        Due.daily(x, 0, 3, 100, 0);
        x.hours(1, 0);
        Due.same("the other way round", x.grains(0, 6), 10);
        Due.same("nothing where the wind comes in", x.grains(0, 4), 0);
        Due.same("left", x.grains(0, 3), 90);
    }

    private static void partsThatGo() {
        Due.sentence("n f / 1000 go");
        // grains given off, the wind, and those that go of what is not laid down
        int[][] rows = {{9, 100, 0}, {10, 100, 1}, {19, 100, 1}, {20, 100, 2}, {999, 1, 0}, {1000, 1, 0}, {1001, 1, 1},
            {99, 10, 0}, {100, 10, 1}, {10, 99, 0}, {11, 99, 1}, {1000000, 100, 99900}};
        for (int[] row : rows) {
            for (int way = -1; way <= 1; way += 2) {
                WindBoxes x = round(way * row[1]);
                Due.daily(x, 2, 3, row[0], 0);
                x.hours(1, 0);
                String when = row[0] + " grains, wind " + way * row[1];
                Due.same(when, x.grains(2, way > 0 ? 4 : 6), row[2]);
                Due.same(when + ", left", x.grains(2, 3), row[0] - row[0] / 1000 - row[2]);
            }
        }
    }

    private static void fractionsThatGo() {
        Due.sentence("with a speed of f (a fraction)");
        // the net at wall 1 is 568960/100352: 176 grains by it are 998.., 177 are 1003..
        for (int grains = 176; grains <= 177; grains++) {
            WindBoxes x = new WindBoxes();
            x.wind(1, 10);
            Due.same("still(1)", x.still(1), 568960);
            Due.daily(x, 0, 0, grains, 0);
            x.hours(1, 0);
            Due.same("of " + grains + " grains", x.grains(0, 1), grains - 176);
        }
    }

    private static void eachWallTakesOfTheSame() {
        Due.sentence("of n that are left then: through each of its four WALLS");
        WindBoxes x = new WindBoxes();
        for (int i = 0; i < 4; i++) {
            x.wind(4 + i, 100);
            x.wind(13 + 3 * i, 100);
        }
        Due.daily(x, 0, 4, 10, 0);
        x.hours(1, 0);
        Due.same("a tenth of 10 to the right", x.grains(0, 5), 1);
        Due.same("a tenth of 10 up, not of 9", x.grains(0, 7), 1);
        Due.same("left", x.grains(0, 4), 8);
    }

    private static void atOnceForAllBoxes() {
        Due.sentence("at once for all BOXES");
        for (int way = -1; way <= 1; way += 2) {
            WindBoxes x = new WindBoxes();
            for (int i = 0; i < 4; i++) {
                x.wind(i, way * 100);
            }
            Due.daily(x, 0, way > 0 ? 0 : 2, 900, 0);
            x.hours(1, 0);
            Due.same("one box on", x.grains(0, 1), 90);
            Due.same("not two", x.grains(0, way > 0 ? 2 : 0), 0);
            x.hours(1, 0);
            Due.same("what comes in makes no more go", x.grains(0, way > 0 ? 2 : 0), 9);
            Due.same("90 - 9 + 81", x.grains(0, 1), 162);
            Due.same("none outside yet", x.total(0, 3), 0);
        }
    }

    private static void throughOuterWalls() {
        Due.sentence("those through outer walls are BLOWN away");
        int[] walls = {0, 4, 8, 3, 7, 11, 12, 13, 14, 21, 22, 23};
        int[] boxes = {0, 3, 6, 2, 5, 8, 0, 1, 2, 6, 7, 8};
        for (int i = 0; i < walls.length; i++) {
            boolean right = i >= 3 && i < 6 || i >= 9;
            WindBoxes x = new WindBoxes();
            int step = walls[i] < 12 ? 1 : 3;
            for (int k = 0; k < 4; k++) {
                x.wind(right ? walls[i] - k * step : walls[i] + k * step, right ? 100 : -100);
            }
            Due.daily(x, 1, boxes[i], 50, 0);
            x.hours(1, 0);
            Due.same("blown away at wall " + walls[i], x.total(1, 3), 5);
            Due.same("left in box " + boxes[i], x.grains(1, boxes[i]), 45);
            Due.same("in all boxes", x.total(1, 4), 45);
            x.wind(walls[i], right ? -100 : 100);
            x.hours(1, 0);
            Due.holds("none comes back", x.total(1, 3) >= 5 && x.total(1, 4) <= 45);
        }
        blownAwayStays();
    }

    private static void blownAwayStays() {
        WindBoxes x = new WindBoxes();
        for (int wall = 0; wall < 4; wall++) {
            x.wind(wall, -100);
        }
        Due.daily(x, 0, 0, 1000000, 0);
        x.hours(1, 0);
        Due.same("a tenth of 999000", x.total(0, 3), 99900);
        x.hours(1, 1000);
        Due.same("what is blown away is not washed out", x.total(0, 3), 99900);
        Due.same("all that was left is", x.total(0, 1), 899100);
        x.hours(1, 0);
        Due.same("nor is it laid down", x.total(0, 2), 1000);
        Due.same("nor does it come back", x.total(0, 3), 99900);
    }

    private static void neverAllCanGo() {
        Due.sentence("(So never all can go.)");
        for (int box = 0; box < 9; box++) {
            WindBoxes x = new WindBoxes();
            int left = 4 * (box / 3) + box % 3;
            for (int wall = 0; wall < 24; wall++) {
                boolean out = wall == left + 1 || wall == 15 + box;
                x.wind(wall, out || wall % 2 == 0 ? 100 : -100);
            }
            Due.daily(x, 0, box, 1, 0, 100000);
            x.hours(2, 0);
            Due.same("a lone grain stays in box " + box, x.grains(0, box), 1);
            x.hours(1, 0);
            Due.holds("most of many stay in box " + box, x.grains(0, box) > 50000);
        }
    }

    private static void timeIsOneMore() {
        Due.sentence("Then THE TIME is one more (at first 0)");
        WindBoxes x = new WindBoxes();
        Due.same("hours(1, 0)", x.hours(1, 0), 1);
        Due.same("hours(50, 1000)", x.hours(50, 1000), 51);
        Due.same("hours(23, 0)", x.hours(23, 0), 74);
        Due.same("hours(1, 0)", x.hours(1, 0), 75);
    }

    private static void doorsAtFirst() {
        Due.sentence("at each DOOR (0 .. 3, each in a BOX; all in 0 at first)");
        WindBoxes x = new WindBoxes();
        Due.steady(x, 0, 0, 11);
        x.hours(1, 0);
        for (int door = 0; door < 4; door++) {
            Due.same("hour(" + door + ", 0, 3)", x.hour(door, 0, 3), 11);
        }
        for (int door = 0; door < 4; door++) {
            x.door(door, 8 - door);
        }
        Due.steady(x, 0, 6, 5);
        x.hours(1, 0);
        for (int door = 0; door < 4; door++) {
            Due.same("box " + (8 - door), x.hour(door, 0, 3), door == 2 ? 5 : 0);
        }
    }

    private static void numberAndShares() {
        Due.sentence("all grains there are that HOUR's NUMBER, and those of each SOURCE its SHARE");
        WindBoxes x = new WindBoxes();
        x.wind(0, 100);
        x.wind(1, 100);
        x.wind(2, 100);
        x.wind(3, 100);
        x.door(3, 1);
        Due.daily(x, 0, 0, 100, 0);
        Due.daily(x, 1, 1, 200, 0);
        x.hours(1, 0);
        Due.same("what came in this hour is counted", x.hour(3, 0, 0), 10);
        Due.same("what went out is not", x.hour(3, 0, 1), 180);
        Due.same("a source without grains there", x.hour(3, 0, 2), 0);
        Due.same("all", x.hour(3, 0, 3), 190);
        x.hours(1, 1000);
        Due.same("a number of 0 is written down", x.hour(3, 0, 3), 0);
        Due.same("the hour before is as it was", x.hour(3, 1, 3), 190);
    }

    private static void lostDoorWritesNothing() {
        Due.sentence("if the DOOR is told LOST, nothing is written down");
        WindBoxes x = new WindBoxes();
        Due.steady(x, 0, 0, 10);
        x.lose(1, true);
        x.hours(2, 0);
        for (int source = 0; source <= 3; source++) {
            Due.same("hour(1, 0, " + source + ")", x.hour(1, 0, source), NONE);
        }
        Due.same("other doors write", x.hour(0, 0, 3), 20);
        x.lose(1, false);
        Due.same("a gap stays one", x.hour(1, 0, 3), NONE);
        x.hours(1, 0);
        Due.same("written again", x.hour(1, 0, 3), 30);
        Due.same("behind a gap", x.hour(1, 1, 3), NONE);
        x.lose(1, true);
        Due.same("what is written stays written", x.hour(1, 0, 3), 30);
    }

    /** One grain more each hour: the number tells which hour it is. */
    private static void latest100() {
        Due.sentence("(The latest 100 HOURS are kept");
        WindBoxes x = new WindBoxes();
        Due.steady(x, 0, 0, 1);
        int[] steps = {1, 48, 50, 1, 1, 49, 50, 50, 1};
        int time = 0;
        for (int step : steps) {
            time += step;
            Due.same("hours", x.hours(step, 0), time);
            int count = Math.min(time, 100);
            Due.same("kept(2, 0) at " + time, x.kept(2, 0), count);
            Due.same("kept(2, 1) at " + time, x.kept(2, 1), count);
            Due.same("the latest at " + time, x.hour(2, 0, 3), time);
            Due.same("the earliest at " + time, x.hour(2, count - 1, 3), time - count + 1);
            Due.same("no earlier one at " + time, x.hour(2, count, 3), BAD);
            Due.same("the least at " + time, x.rank(2, count), time - count + 1);
            Due.same("no lesser one at " + time, x.rank(2, count + 1), NONE);
        }
        for (int i = 0; i < 100; i++) {
            Due.same("hour(2, " + i + ", 0)", x.hour(2, i, 0), 251 - i);
        }
    }

    private static void lostOnesAreKeptToo() {
        Due.sentence("LOST ones too.)");
        WindBoxes x = new WindBoxes();
        Due.steady(x, 0, 0, 1);
        x.hours(2, 0);
        x.lose(0, true);
        x.hours(49, 0);
        x.hours(49, 0);
        Due.same("98 LOST ones leave two others", x.kept(0, 1), 2);
        Due.same("the earliest", x.hour(0, 99, 3), 1);
        x.hours(1, 0);
        Due.same("99 leave one", x.kept(0, 1), 1);
        Due.same("mean", x.mean(0), 2);
        x.hours(1, 0);
        Due.same("100 leave none", x.kept(0, 1), 0);
        Due.same("kept(0, 0)", x.kept(0, 0), 100);
        Due.same("mean", x.mean(0), NONE);
        Due.same("the earliest", x.hour(0, 99, 3), NONE);
        x.lose(0, false);
        x.hours(50, 0);
        x.hours(49, 0);
        Due.same("one LOST one is left", x.kept(0, 1), 99);
        Due.same("it is the earliest", x.hour(0, 99, 3), NONE);
        x.hours(1, 0);
        Due.same("none is left", x.kept(0, 1), 100);
        Due.same("the earliest", x.hour(0, 99, 3), 103);
    }

    private static void doorAnswersHours() {
        Due.sentence("A DOOR stands in a BOX; what was kept of it goes: how many HOURS that were.");
        WindBoxes x = new WindBoxes();
        Due.steady(x, 0, 0, 1);
        Due.same("none yet", x.door(0, 0), 0);
        x.hours(1, 0);
        Due.same("one", x.door(0, 0), 1);
        Due.same("it is gone, though the box is the same", x.kept(0, 0), 0);
        x.lose(0, true);
        x.hours(49, 0);
        x.lose(0, false);
        x.hours(50, 0);
        Due.same("99, LOST ones too", x.door(0, 0), 99);
        Due.same("100 at a door that stayed", x.door(1, 0), 100);
        x.hours(50, 0);
        x.hours(50, 0);
        x.hours(1, 0);
        Due.same("101 passed, 100 were kept", x.door(0, 0), 100);
        Due.same("none, at once behind", x.door(0, 0), 0);
        Due.same("rank", x.rank(0, 1), NONE);
        Due.same("rolling", x.rolling(0, 1), NONE);
        x.hours(2, 0);
        Due.same("two new ones", x.kept(0, 0), 2);
        Due.same("the earlier of them", x.hour(0, 1, 3), 202);
        Due.same("none of the old ones comes back", x.hour(0, 2, 3), BAD);
        Due.same("none of the old ones comes back", x.rank(0, 3), NONE);
    }

    private static void doorBad() {
        Due.sentence("door: BAD.");
        WindBoxes x = new WindBoxes();
        x.hours(3, 0);
        for (int odd : new int[] {-1, MIN, MAX}) {
            Due.same("door(" + odd + ", 0)", x.door(odd, 0), BAD);
            Due.same("door(0, " + odd + ")", x.door(0, odd), BAD);
        }
        Due.same("door(4, 0)", x.door(4, 0), BAD);
        Due.same("door(0, 9)", x.door(0, 9), BAD);
        for (int door = 0; door < 4; door++) {
            Due.same("door(" + door + ", 8): nothing went before", x.door(door, 8), 3);
        }
    }

    private static void loseAnswersWhatItWas() {
        Due.sentence("A DOOR is told LOST, or not any more: 1, if it was LOST, else 0.");
        WindBoxes x = new WindBoxes();
        for (int door = 0; door < 4; door++) {
            Due.same("not LOST at first", x.lose(door, false), 0);
            Due.same("still not", x.lose(door, true), 0);
            Due.same("LOST", x.lose(door, true), 1);
            Due.same("LOST still", x.lose(door, false), 1);
            Due.same("not any more", x.lose(door, true), 0);
        }
    }

    private static void loseBad() {
        Due.sentence("lose: BAD.");
        WindBoxes x = new WindBoxes();
        for (int door : new int[] {-1, 4, MIN, MAX}) {
            Due.same("lose(" + door + ", true)", x.lose(door, true), BAD);
            Due.same("lose(" + door + ", false)", x.lose(door, false), BAD);
        }
        for (int door = 0; door < 4; door++) {
            Due.same("none became LOST", x.lose(door, true), 0);
        }
    }

    private static void hoursRange() {
        Due.sentence("n HOURS (1 .. 50) of wet r: THE TIME. BAD.");
        WindBoxes x = new WindBoxes();
        for (int n : new int[] {0, -1, 51, 100, MIN, MAX}) {
            Due.same("hours(" + n + ", 0)", x.hours(n, 0), BAD);
        }
        Due.same("both are wrong", x.hours(0, 1001), BAD);
        Due.same("nothing is kept", x.kept(0, 0), 0);
        Due.same("hours(50, 0)", x.hours(50, 0), 50);
        Due.same("hours(1, 0)", x.hours(1, 0), 51);
    }

    private static void grainsBad() {
        Due.sentence("Grains of a SOURCE in a BOX. BAD.");
        WindBoxes x = new WindBoxes();
        Due.daily(x, 2, 8, 3, 0);
        x.hours(1, 0);
        Due.same("grains(2, 8)", x.grains(2, 8), 3);
        Due.same("grains(0, 0)", x.grains(0, 0), 0);
        for (int odd : new int[] {-1, MIN, MAX}) {
            Due.same("grains(" + odd + ", 0)", x.grains(odd, 0), BAD);
            Due.same("grains(0, " + odd + ")", x.grains(0, odd), BAD);
        }
        Due.same("grains(3, 0)", x.grains(3, 0), BAD);
        Due.same("grains(2, 9)", x.grains(2, 9), BAD);
    }

    private static void totalsOfEachKind() {
        Due.sentence("0 given off, 1 WASHED, 2 LAID, 3 BLOWN away, 4 in all BOXES");
        WindBoxes x = new WindBoxes();
        for (int wall = 20; wall >= 14; wall -= 3) {
            x.wind(wall, 100);
        }
        x.wind(23, 100);
        Due.daily(x, 1, 8, 4000, 0);
        x.hours(1, 250);
        Due.same("given off", x.total(1, 0), 4000);
        Due.same("washed", x.total(1, 1), 1000);
        Due.same("laid", x.total(1, 2), 3);
        Due.same("blown away", x.total(1, 3), 299);
        Due.same("in all boxes", x.total(1, 4), 2698);
        Due.same("of another source", x.total(0, 0) + x.total(2, 0), 0);
    }

    private static void totalBad() {
        Due.sentence("total: BAD.");
        WindBoxes x = new WindBoxes();
        for (int odd : new int[] {-1, MIN, MAX}) {
            Due.same("total(" + odd + ", 0)", x.total(odd, 0), BAD);
            Due.same("total(0, " + odd + ")", x.total(0, odd), BAD);
        }
        Due.same("total(3, 0)", x.total(3, 0), BAD);
        Due.same("total(2, 5)", x.total(2, 5), BAD);
    }

    private static void sumKeptOver512Calls() {
        Due.sentence("An object is used for at most 512 calls; its sum kept to the last grain");
        WindBoxes x = new WindBoxes();
        Due.steady(x, 0, 4, 1000000);
        x.wind(5, 100);
        for (int i = 0; i < 480; i++) {
            x.hours(50, i % 2);
        }
        Due.same("given off", x.total(0, 0), 24000000000L);
        long there = x.total(0, 1) + x.total(0, 2) + x.total(0, 3) + x.total(0, 4);
        Due.same("washed, laid, blown away and there", there, 24000000000L);
    }
}

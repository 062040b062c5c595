/** Promises 15 to 19: what doors keep, means, ranks and rolling means. */
public final class DoorTest {
    private static final int BAD = -1, NONE = -4;
    private static final int MIN = Integer.MIN_VALUE, MAX = Integer.MAX_VALUE;

    public static void main(String[] args) {
        refusals();
        hour();
        ring();
        meanAndRank();
        fallingRanks();
        rolling();
        rollingWithGaps();
        greatNumbers();
        Due.end();
    }

    /** Door 0 gets one hour of each number in order; -1 is a LOST hour. Below 1000 nothing is laid. */
    private static WindBoxes with(int... numbers) {
        WindBoxes x = new WindBoxes();
        for (int i = 0; i < numbers.length; i++) {
            one(x, i, numbers[i]);
        }
        return x;
    }

    private static void one(WindBoxes x, int time, int number) {
        int more = number < 0 ? 0 : number - (int) x.grains(0, 0);
        x.sheet(0, 1, 24);
        x.item(0, 1, time % 24, more);
        Due.same("numbers that do not fall", x.source(0, 0, 0, 1), more);
        x.lose(0, number < 0);
        x.hours(1, 0);
    }

    private static void refusals() {
        WindBoxes x = with(5, 6, 7);
        int[] doors = {-1, 4, MIN, MAX};
        for (int d : doors) {
            Due.same("hour(" + d + ", 0, 3)", x.hour(d, 0, 3), BAD);
            Due.same("kept(" + d + ", 0)", x.kept(d, 0), BAD);
            Due.same("mean(" + d + ")", x.mean(d), BAD);
            Due.same("rank(" + d + ", 1)", x.rank(d, 1), BAD);
            Due.same("rolling(" + d + ", 1)", x.rolling(d, 1), BAD);
        }
        int[] wrong = {-1, 3, 100, MIN, MAX};
        for (int i : wrong) {
            Due.same("hour(0, " + i + ", 3)", x.hour(0, i, 3), BAD);
        }
        Due.same("hour(0, 0, -1)", x.hour(0, 0, -1), BAD);
        Due.same("hour(0, 0, 4)", x.hour(0, 0, 4), BAD);
        Due.same("kept(0, -1)", x.kept(0, -1), BAD);
        Due.same("kept(0, 2)", x.kept(0, 2), BAD);
        Due.same("rank(0, 0)", x.rank(0, 0), BAD);
        Due.same("rank(0, MIN)", x.rank(0, MIN), BAD);
        Due.same("rank(0, 4)", x.rank(0, 4), NONE);
        Due.same("rank(0, MAX)", x.rank(0, MAX), NONE);
        Due.same("rolling(0, 0)", x.rolling(0, 0), BAD);
        Due.same("rolling(0, 25)", x.rolling(0, 25), BAD);
        Due.same("rolling(0, MIN)", x.rolling(0, MIN), BAD);
        Due.same("rolling(0, 4)", x.rolling(0, 4), NONE);
        x.lose(0, true);
        x.hours(1, 0);
        Due.same("BAD is ahead of NONE", x.hour(0, 0, 4), BAD);
    }

    private static void hour() {
        WindBoxes x = new WindBoxes();
        Due.steady(x, 0, 0, 1);
        Due.steady(x, 1, 0, 20);
        Due.steady(x, 2, 0, 300);
        x.hours(2, 0);
        Due.same("hour(0, 0, 0)", x.hour(0, 0, 0), 2);
        Due.same("hour(0, 0, 1)", x.hour(0, 0, 1), 40);
        Due.same("hour(0, 0, 2)", x.hour(0, 0, 2), 600);
        Due.same("hour(0, 0, 3)", x.hour(0, 0, 3), 642);
        Due.same("hour(0, 1, 3)", x.hour(0, 1, 3), 321);
        Due.same("all doors stand in box 0 at first", x.hour(3, 1, 3), 321);
        x.door(1, 1);
        x.hours(1, 0);
        Due.same("no grains in box 1", x.hour(1, 0, 3), 0);
        Due.same("hours are written behind the wind's work, not ahead", x.hour(0, 0, 3), 963);
    }

    /** The 101st hour takes the place of the first. */
    private static void ring() {
        WindBoxes x = new WindBoxes();
        Due.steady(x, 0, 0, 1);
        x.lose(0, true);
        x.hours(3, 0);
        x.lose(0, false);
        x.hours(47, 0);
        x.hours(50, 0);
        Due.same("kept(0, 0)", x.kept(0, 0), 100);
        Due.same("kept(0, 1)", x.kept(0, 1), 97);
        Due.same("hour(0, 99, 3)", x.hour(0, 99, 3), NONE);
        Due.same("hour(0, 96, 3)", x.hour(0, 96, 3), 4);
        Due.same("hour(0, 100, 3)", x.hour(0, 100, 3), BAD);
        x.hours(2, 0);
        Due.same("kept(0, 0) stays", x.kept(0, 0), 100);
        Due.same("kept(0, 1): two LOST ones went", x.kept(0, 1), 99);
        Due.same("the latest", x.hour(0, 0, 3), 102);
        Due.same("the earliest", x.hour(0, 99, 3), NONE);
        Due.same("the one behind it", x.hour(0, 98, 3), 4);
        Due.same("the least", x.rank(0, 99), 4);
        Due.same("no more", x.rank(0, 100), NONE);
        Due.same("mean of 4 .. 102", x.mean(0), 53);
        Due.same("rolling(0, 24) is of 79 .. 102", x.rolling(0, 24), 90);
    }

    private static void meanAndRank() {
        WindBoxes x = with(3, 3, -1, 5, 9, 9, -1, 10);
        Due.same("kept(0, 0)", x.kept(0, 0), 8);
        Due.same("kept(0, 1)", x.kept(0, 1), 6);
        Due.same("mean 39 / 6, cut down", x.mean(0), 6);
        int[] ranks = {10, 9, 9, 5, 3, 3};
        for (int k = 1; k <= 6; k++) {
            Due.same("rank(0, " + k + ")", x.rank(0, k), ranks[k - 1]);
        }
        Due.same("rank(0, 7)", x.rank(0, 7), NONE);
        x = with(-1, -1);
        Due.same("all LOST: mean", x.mean(0), NONE);
        Due.same("all LOST: rank", x.rank(0, 1), NONE);
        Due.same("all LOST: rolling", x.rolling(0, 1), NONE);
        Due.same("all LOST: kept(0, 0)", x.kept(0, 0), 2);
        Due.same("all LOST: kept(0, 1)", x.kept(0, 1), 0);
        x = with(0, 0);
        Due.same("a mean of nothing is 0, not NONE", x.mean(0), 0);
        Due.same("a rank of nothing is 0, not NONE", x.rank(0, 2), 0);
        Due.same("a rolling mean of nothing is 0, not NONE", x.rolling(0, 2), 0);
    }

    private static void fallingRanks() {
        WindBoxes x = new WindBoxes();
        Due.daily(x, 0, 0, 512, 0);
        x.hours(1, 0);
        x.hours(9, 500);
        for (int k = 1; k <= 10; k++) {
            Due.same("falling rank(0, " + k + ")", x.rank(0, k), 512 >> (k - 1));
        }
    }

    private static void rolling() {
        WindBoxes x = new WindBoxes();
        Due.daily(x, 0, 0, 0, 0, 0, 600, 0);
        x.hours(4, 0);
        x.hours(1, 1000);
        x.hours(2, 0);
        Due.same("one peak, w 1", x.rolling(0, 1), 600);
        Due.same("one peak, w 2", x.rolling(0, 2), 300);
        Due.same("one peak, w 7", x.rolling(0, 7), 85);
        Due.same("one peak, w 8", x.rolling(0, 8), NONE);
    }

    private static void rollingWithGaps() {
        WindBoxes x = with(1, -1, -1, 100);
        Due.same("w 1", x.rolling(0, 1), 100);
        Due.same("w 2: one of two will do", x.rolling(0, 2), 100);
        Due.same("w 3: two of three are needed", x.rolling(0, 3), NONE);
        Due.same("w 4: two of four will do", x.rolling(0, 4), 50);
        x = with(-1, 8, -1, -1);
        Due.same("w 2", x.rolling(0, 2), 8);
        Due.same("w 3", x.rolling(0, 3), NONE);
        x = with(4, 7, -1, 9, -1);
        Due.same("w 3: (7 + 9) / 2", x.rolling(0, 3), 8);
        Due.same("w 5: 20 / 3, cut down", x.rolling(0, 5), 6);
    }

    private static void greatNumbers() {
        WindBoxes x = new WindBoxes();
        for (int source = 0; source < 3; source++) {
            Due.steady(x, source, 0, 1000000);
        }
        for (int i = 0; i < 300; i++) {
            x.hours(50, 0);
        }
        long last = x.hour(0, 0, 3);
        Due.holds("above what an int holds", last > Integer.MAX_VALUE);
        Due.same("each share is the same", x.hour(0, 0, 1) * 3, last);
        Due.same("rank(0, 1)", x.rank(0, 1), last);
        Due.same("rolling(0, 24) where nothing changes more", x.rolling(0, 24), last);
        Due.same("mean(0) where nothing changes more", x.mean(0), last);
        x.watch(0, true);
        Due.same("law(1000000000, 99)", x.law(1000000000, 99), 0);
        Due.same("law(1000000000, 100)", x.law(1000000000, 100), 1);
        x.law(1000000000, 99);
        Due.same("cheapest(3)", x.cheapest(3), 20);
        Due.same("cheapest(0)", x.cheapest(0), 0);
        Due.same("cheapest(1)", x.cheapest(1), 10);
    }
}

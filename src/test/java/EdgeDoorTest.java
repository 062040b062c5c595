/** The edges that the document names for what doors keep: Terms 3 and promises 15 to 19, sentence by sentence. */
public final class EdgeDoorTest {
    private static final int BAD = -1, NONE = -4;
    private static final int MIN = Integer.MIN_VALUE, MAX = Integer.MAX_VALUE;

    public static void main(String[] args) {
        meanCutDown();
        rankGreatestFirst();
        rollingRange();
        rollingHoursOneBehindTheOther();
        rollingAtLeastHalf();
        rollingHalfAtEachPlace();
        rollingCutDown();
        rollingGoesRound();
        hourFromTheLatestBack();
        hourOfASource();
        hourBad();
        hourNone();
        keptOfEachKind();
        keptBad();
        meanNone();
        meanBad();
        rankNone();
        rankBad();
        rollingNone();
        rollingBad();
        greatestNumbers();
        Due.end();
    }

    private static void meanCutDown() {
        Due.sentence("MEAN: all NUMBERS together by how many, cut down.");
        Due.same("of one", Street.of(7).x.mean(0), 7);
        Due.same("of 1 and 2", Street.of(1, 2).x.mean(0), 1);
        Due.same("of 1 and 3", Street.of(1, 3).x.mean(0), 2);
        Due.same("of 0, 0, 2", Street.of(0, 0, 2).x.mean(0), 0);
        Due.same("of 1, 1, 3", Street.of(1, 1, 3).x.mean(0), 1);
        Due.same("LOST ones do not count", Street.of(9, -1, -1, 4).x.mean(0), 6);
    }

    private static void rankGreatestFirst() {
        Due.sentence("RANK k: the k-th NUMBER, the greatest first.");
        WindBoxes x = Street.of(5, 999, 0, -1, 5, 7, 0, 999, 1).x;
        int[] ranks = {999, 999, 7, 5, 5, 1, 0, 0};
        for (int k = 1; k <= ranks.length; k++) {
            Due.same("rank(0, " + k + ")", x.rank(0, k), ranks[k - 1]);
        }
        Due.same("the LOST one has no rank", x.rank(0, 9), NONE);
        x = Street.of(4, 4, 4).x;
        Due.same("the same thrice", x.rank(0, 3), 4);
        Due.same("not a fourth time", x.rank(0, 4), NONE);
    }

    private static void rollingRange() {
        Due.sentence("ROLLING w (1 .. 24)");
        WindBoxes x = new WindBoxes();
        Due.steady(x, 0, 0, 2);
        x.hours(24, 0);
        Due.same("rolling(0, 0)", x.rolling(0, 0), BAD);
        Due.same("rolling(0, 1)", x.rolling(0, 1), 48);
        Due.same("rolling(0, 2)", x.rolling(0, 2), 47);
        Due.same("rolling(0, 23)", x.rolling(0, 23), 26);
        Due.same("rolling(0, 24)", x.rolling(0, 24), 25);
        Due.same("rolling(0, 25)", x.rolling(0, 25), BAD);
    }

    private static void rollingHoursOneBehindTheOther() {
        Due.sentence("the greatest, over w kept HOURS one behind the other");
        WindBoxes x = Street.of(9, 1, 8, 2, 2).x;
        Due.same("w 1", x.rolling(0, 1), 9);
        Due.same("w 2: 9 and 8 are not beside each other", x.rolling(0, 2), 5);
        Due.same("w 3: the first three", x.rolling(0, 3), 6);
        Due.same("w 5: all", x.rolling(0, 5), 4);
        Due.same("w 6: so many are not kept", x.rolling(0, 6), NONE);
        x = Street.of(2, 2, 8, 1, 9).x;
        Due.same("the last three", x.rolling(0, 3), 6);
        x = Street.of(0, 6, 6, 0).x;
        Due.same("the middle two", x.rolling(0, 2), 6);
        for (int w = 1; w <= 24; w++) {
            WindBoxes y = new WindBoxes();
            if (w > 1) {
                y.hours(w - 1, 0);
            }
            Due.same("one hour less than " + w, y.rolling(3, w), NONE);
            y.hours(1, 0);
            Due.same("just " + w + " hours", y.rolling(3, w), 0);
        }
    }

    /** One grain more each hour; of w hours the first ones are LOST and so many not. */
    private static WindBoxes lateHours(int w, int written) {
        WindBoxes x = new WindBoxes();
        Due.steady(x, 0, 0, 1);
        x.lose(0, true);
        if (w > written) {
            x.hours(w - written, 0);
        }
        x.lose(0, false);
        if (written > 0) {
            x.hours(written, 0);
        }
        return x;
    }

    private static void rollingAtLeastHalf() {
        Due.sentence("of which at least half (w by 2, cut up) are not LOST");
        for (int w = 1; w <= 24; w++) {
            int half = w / 2 + w % 2;
            WindBoxes x = lateHours(w, half);
            Due.same("kept", x.kept(0, 0), w);
            Due.same(half + " of " + w, x.rolling(0, w), (w - half + 1 + w) / 2);
            Due.same(half - 1 + " of " + w, lateHours(w, half - 1).rolling(0, w), NONE);
        }
    }

    private static void rollingHalfAtEachPlace() {
        Due.sentence("of the sum of those by how many");
        WindBoxes x = Street.of(6, -1, -1, 2, 4).x;
        Due.same("w 1: gaps are no numbers", x.rolling(0, 1), 6);
        Due.same("w 2: 6 and a gap", x.rolling(0, 2), 6);
        Due.same("w 3: a gap, 2 and 4", x.rolling(0, 3), 3);
        Due.same("w 4: 6, two gaps and 2", x.rolling(0, 4), 4);
        Due.same("w 5: 12 by 3", x.rolling(0, 5), 4);
        x = Street.of(9, -1, -1, 0, 0).x;
        Due.same("w 3: two gaps are too many, 9 does not count", x.rolling(0, 3), 0);
    }

    private static void rollingCutDown() {
        Due.sentence("by how many, cut down.");
        Due.same("3 by 2", Street.of(1, 2).x.rolling(0, 2), 1);
        Due.same("8 by 3", Street.of(1, 2, 5).x.rolling(0, 3), 2);
        Due.same("1 by 2", Street.of(0, 1).x.rolling(0, 2), 0);
        Due.same("11 by 2, with a gap", Street.of(5, -1, 6).x.rolling(0, 3), 5);
    }

    /** The 100 places go round: what is kept is neither cut where they end nor joined where they begin. */
    private static void rollingGoesRound() {
        Due.sentence("over w kept HOURS one behind the other (The latest 100 HOURS are kept)");
        WindBoxes x = new WindBoxes();
        Due.steady(x, 0, 0, 1);
        for (int i = 0; i < 130; i++) {
            x.hours(1, 0);
            if (i >= 92) {
                Due.same("rolling(0, 8) at " + (i + 1), x.rolling(0, 8), i - 3);
            }
        }
        WindBoxes y = new WindBoxes();
        Due.daily(y, 0, 0, 600);
        y.hours(1, 0);
        y.hours(50, 1000);
        y.hours(48, 1000);
        Due.daily(y, 0, 0, 0, 0, 0, 600);
        y.hours(1, 0);
        Due.same("100 hours: 600, 98 times 0, 600", y.hour(0, 99, 3) + y.hour(0, 0, 3), 1200);
        Due.same("the latest is not beside the earliest", y.rolling(0, 2), 300);
        y.hours(1, 1000);
        Due.same("600 at its end", y.rolling(0, 2), 300);
        y.hours(50, 1000);
        y.hours(47, 1000);
        Due.same("the last pair with it", y.rolling(0, 2), 300);
        y.hours(1, 1000);
        Due.same("kept as the earliest", y.rolling(0, 1), 600);
        y.hours(1, 1000);
        Due.same("gone", y.rolling(0, 1), 0);
    }

    private static void hourFromTheLatestBack() {
        Due.sentence("The NUMBER of a kept HOUR of a DOOR, the i-th from the latest one (0) back");
        WindBoxes x = Street.of(3, 1, 2).x;
        Due.same("hour(0, 0, 3)", x.hour(0, 0, 3), 2);
        Due.same("hour(0, 1, 3)", x.hour(0, 1, 3), 1);
        Due.same("hour(0, 2, 3)", x.hour(0, 2, 3), 3);
        Due.same("hour(0, 3, 3)", x.hour(0, 3, 3), BAD);
    }

    private static void hourOfASource() {
        Due.sentence("of a SOURCE 0 .. 2 its SHARE (3: all)");
        WindBoxes x = new Street().hour(1, 20, 300).hour(2, 30, 400).x;
        int[] latest = {2, 30, 400, 432};
        int[] before = {1, 20, 300, 321};
        for (int source = 0; source < 4; source++) {
            Due.same("hour(1, 0, " + source + ")", x.hour(1, 0, source), latest[source]);
            Due.same("hour(1, 1, " + source + ")", x.hour(1, 1, source), before[source]);
        }
        for (int source : new int[] {-1, 4, MIN, MAX}) {
            Due.same("hour(1, 0, " + source + ")", x.hour(1, 0, source), BAD);
        }
    }

    private static void hourBad() {
        Due.sentence("hour: BAD");
        WindBoxes x = new WindBoxes();
        Due.same("no hour is kept yet", x.hour(0, 0, 3), BAD);
        x.hours(1, 0);
        Due.same("hour(0, 0, 3)", x.hour(0, 0, 3), 0);
        for (int i : new int[] {-1, 1, 99, 100, MIN, MAX}) {
            Due.same("hour(0, " + i + ", 3)", x.hour(0, i, 3), BAD);
        }
        for (int door : new int[] {-1, 4, MIN, MAX}) {
            Due.same("hour(" + door + ", 0, 3)", x.hour(door, 0, 3), BAD);
        }
        x.hours(50, 0);
        x.hours(49, 0);
        Due.same("hour(0, 99, 3)", x.hour(0, 99, 3), 0);
        Due.same("hour(0, 100, 3)", x.hour(0, 100, 3), BAD);
        x.hours(1, 0);
        Due.same("hour(0, 100, 3) of 101", x.hour(0, 100, 3), BAD);
    }

    private static void hourNone() {
        Due.sentence("NONE: it is LOST.");
        WindBoxes x = Street.of(5, -1).x;
        for (int source = 0; source < 4; source++) {
            Due.same("hour(0, 0, " + source + ")", x.hour(0, 0, source), NONE);
            Due.same("at another door it is not", x.hour(1, 0, source), 0);
        }
        Due.same("the one before is not", x.hour(0, 1, 3), 5);
        Due.same("BAD ahead of NONE", x.hour(0, 0, 4), BAD);
        Due.same("BAD ahead of NONE", x.hour(0, 0, -1), BAD);
    }

    private static void keptOfEachKind() {
        Due.sentence("How many HOURS of a DOOR are kept (0), of these not LOST (1).");
        WindBoxes x = new WindBoxes();
        Due.same("kept(3, 0)", x.kept(3, 0), 0);
        Due.same("kept(3, 1)", x.kept(3, 1), 0);
        x.lose(3, true);
        x.hours(2, 0);
        Due.same("all LOST: kept(3, 0)", x.kept(3, 0), 2);
        Due.same("all LOST: kept(3, 1)", x.kept(3, 1), 0);
        x.lose(3, false);
        x.hours(1, 0);
        Due.same("kept(3, 0)", x.kept(3, 0), 3);
        Due.same("kept(3, 1)", x.kept(3, 1), 1);
        Due.same("kept(0, 1)", x.kept(0, 1), 3);
    }

    private static void keptBad() {
        Due.sentence("kept: BAD.");
        WindBoxes x = Street.of(5).x;
        for (int odd : new int[] {-1, MIN, MAX}) {
            Due.same("kept(" + odd + ", 0)", x.kept(odd, 0), BAD);
            Due.same("kept(0, " + odd + ")", x.kept(0, odd), BAD);
        }
        Due.same("kept(4, 1)", x.kept(4, 1), BAD);
        Due.same("kept(3, 2)", x.kept(3, 2), BAD);
        Due.same("kept(3, 1)", x.kept(3, 1), 1);
    }

    private static void meanNone() {
        Due.sentence("mean: NONE: there are none.");
        WindBoxes x = new WindBoxes();
        Due.same("none is kept", x.mean(0), NONE);
        x.lose(0, true);
        x.hours(1, 0);
        Due.same("all are LOST", x.mean(0), NONE);
        x.lose(0, false);
        x.hours(1, 0);
        Due.same("a mean of 0 is one", x.mean(0), 0);
        x.door(0, 0);
        Due.same("none is kept any more", x.mean(0), NONE);
    }

    private static void meanBad() {
        Due.sentence("mean: BAD");
        WindBoxes x = Street.of(5).x;
        for (int door : new int[] {-1, 4, MIN, MAX}) {
            Due.same("mean(" + door + ")", x.mean(door), BAD);
        }
        Due.same("mean(3)", x.mean(3), 5);
    }

    private static void rankNone() {
        Due.sentence("rank: NONE: there are not so many.");
        WindBoxes x = new WindBoxes();
        Due.same("none is kept", x.rank(0, 1), NONE);
        x.lose(0, true);
        x.hours(5, 0);
        Due.same("all are LOST", x.rank(0, 1), NONE);
        x.lose(0, false);
        x.hours(2, 0);
        Due.same("rank(0, 2)", x.rank(0, 2), 0);
        Due.same("rank(0, 3)", x.rank(0, 3), NONE);
        Due.same("rank(0, MAX)", x.rank(0, MAX), NONE);
        x.hours(50, 0);
        x.hours(50, 0);
        Due.same("rank(0, 100)", x.rank(0, 100), 0);
        Due.same("rank(0, 101)", x.rank(0, 101), NONE);
    }

    private static void rankBad() {
        Due.sentence("RANK k (1 ..). BAD: k is below 1");
        WindBoxes x = Street.of(5).x;
        for (int k : new int[] {0, -1, -2, MIN}) {
            Due.same("rank(0, " + k + ")", x.rank(0, k), BAD);
            Due.same("BAD ahead of NONE", new WindBoxes().rank(0, k), BAD);
        }
        for (int door : new int[] {-1, 4, MIN, MAX}) {
            Due.same("rank(" + door + ", 1)", x.rank(door, 1), BAD);
            Due.same("rank(" + door + ", 200)", x.rank(door, 200), BAD);
        }
        Due.same("rank(3, 1)", x.rank(3, 1), 5);
    }

    private static void rollingNone() {
        Due.sentence("rolling: NONE: there are no such.");
        WindBoxes x = new WindBoxes();
        Due.same("none is kept", x.rolling(2, 1), NONE);
        x.lose(2, true);
        x.hours(50, 0);
        Due.same("all are LOST", x.rolling(2, 24), NONE);
        Due.same("all are LOST", x.rolling(2, 1), NONE);
        x.lose(2, false);
        x.hours(1, 0);
        Due.same("one of two", x.rolling(2, 2), 0);
        Due.same("one of three", x.rolling(2, 3), NONE);
    }

    private static void rollingBad() {
        Due.sentence("rolling: BAD");
        WindBoxes x = Street.of(5).x;
        for (int w : new int[] {0, -1, 25, 100, MIN, MAX}) {
            Due.same("rolling(0, " + w + ")", x.rolling(0, w), BAD);
            Due.same("BAD ahead of NONE", new WindBoxes().rolling(0, w), BAD);
        }
        for (int door : new int[] {-1, 4, MIN, MAX}) {
            Due.same("rolling(" + door + ", 1)", x.rolling(door, 1), BAD);
        }
        Due.same("rolling(3, 1)", x.rolling(3, 1), 5);
    }

    /** What is laid down equals what is given off in the end: 999 times the rate is left, for each source. */
    private static void greatestNumbers() {
        Due.sentence("all NUMBERS together; the sum of those (of the greatest RATES)");
        WindBoxes x = new WindBoxes();
        for (int source = 0; source < 3; source++) {
            Due.steady(x, source, 0, 1000000);
        }
        for (int i = 0; i < 400; i++) {
            x.hours(50, 0);
        }
        long last = x.hour(0, 0, 3);
        Due.holds("near 3 times 999000000", last > 2996000000L && last <= 2997000000L);
        Due.same("mean(0)", x.mean(0), last);
        Due.same("rank(0, 100)", x.rank(0, 100), last);
        Due.same("rolling(0, 24)", x.rolling(0, 24), last);
        Due.same("a share", x.hour(0, 99, 2), last / 3);
    }
}

/** The edges that the document names for the law: Terms 3 and promises 20 to 23, sentence by sentence. */
public final class EdgeLawTest {
    private static final int BAD = -1;
    private static final int MIN = Integer.MIN_VALUE, MAX = Integer.MAX_VALUE;

    public static void main(String[] args) {
        aboveALimit();
        noMoreThanN();
        lostHoursDoNotCount();
        watchedDoorsOnly();
        cutsInTenths();
        sumOfSharesAboveTenLimits();
        cutsAreNotCutDown();
        keepTheLawAtEachDoor();
        leastSum();
        sourceZeroFirst();
        thenSourceOne();
        thenSourceTwo();
        watchCounts();
        watchBad();
        lawRange();
        lawAtFirst();
        lawAnswersDoors();
        lawBad();
        priceRange();
        priceAtFirst();
        priceAnswersWhatItWas();
        cheapestOfEachKind();
        cheapestBad();
        thereAlwaysAreSome();
        greatestShares();
        Due.end();
    }

    private static WindBoxes watched(Street street) {
        Due.same("watch(0, true)", street.x.watch(0, true), 1);
        return street.x;
    }

    private static void aboveALimit() {
        Due.sentence("have a NUMBER above a limit L");
        WindBoxes x = watched(Street.of(5));
        Due.same("5 is above 4", x.law(4, 0), 0);
        Due.same("5 is not above 5", x.law(5, 0), 1);
        Due.same("nor above 6", x.law(6, 0), 1);
        x = watched(Street.of(0));
        Due.same("0 is not above 0", x.law(0, 0), 1);
        x = watched(Street.of(1));
        Due.same("1 is above 0", x.law(0, 0), 0);
        x = watched(new Street().hour(2, 2, 2));
        Due.same("all sources together are 6", x.law(5, 0), 0);
        Due.same("and no more", x.law(6, 0), 1);
        for (int source = 0; source < 3; source++) {
            x = new WindBoxes();
            x.watch(0, true);
            Due.daily(x, source, 0, 20, 0);
            x.hours(1, 0);
            Due.same("20 of source " + source + " alone are above 19", x.law(19, 0), 0);
            Due.same("and not above 20", x.law(20, 0), 1);
        }
    }

    private static void noMoreThanN() {
        Due.sentence("no more than n (0 .. 100) of its kept HOURS");
        WindBoxes x = watched(Street.of(9, 1, 9, 1, 9));
        Due.same("three above, none may be", x.law(8, 0), 0);
        Due.same("three above, two may be", x.law(8, 2), 0);
        Due.same("three above, three may be", x.law(8, 3), 1);
        Due.same("three above, four may be", x.law(8, 4), 1);
        x = new WindBoxes();
        Due.steady(x, 0, 0, 9);
        x.watch(0, true);
        x.hours(50, 0);
        x.hours(49, 0);
        Due.same("99 above, 98 may be", x.law(0, 98), 0);
        Due.same("99 above, 99 may be", x.law(0, 99), 1);
        x.hours(1, 0);
        Due.same("100 above, 99 may be", x.law(0, 99), 0);
        Due.same("100 above, 100 may be", x.law(0, 100), 1);
        x.hours(50, 0);
        Due.same("no more than 100 are kept", x.law(0, 100), 1);
    }

    private static void lostHoursDoNotCount() {
        Due.sentence("of its kept HOURS not LOST");
        WindBoxes x = new WindBoxes();
        Due.steady(x, 0, 0, 9);
        x.watch(0, true);
        x.lose(0, true);
        x.hours(5, 0);
        Due.same("all are LOST", x.law(0, 0), 1);
        Due.cuts("all are LOST", x, 0, 0, 0, 0);
        x.lose(0, false);
        x.hours(1, 0);
        Due.same("one is not", x.law(0, 0), 0);
        Due.same("one may be above", x.law(0, 1), 1);
        x.lose(0, true);
        x.hours(50, 0);
        x.hours(49, 0);
        Due.same("it is the earliest", x.law(0, 0), 0);
        x.hours(1, 0);
        Due.same("it is gone", x.law(0, 0), 1);
    }

    private static void watchedDoorsOnly() {
        Due.sentence("at each DOOR that is watched");
        WindBoxes x = Street.of(9).x;
        Due.same("no door is watched", x.law(0, 0), 0);
        Due.cuts("no door is watched", x, 0, 0, 0, 0);
        x.watch(3, true);
        Due.same("one is, and has an hour above", x.law(0, 0), 0);
        Due.cuts("one is", x, 10, 0, 0, 10);
        x.watch(3, false);
        Due.cuts("none is any more", x, 0, 0, 0, 0);
    }

    private static void cutsInTenths() {
        Due.sentence("CUTS are tenths 0 .. 10 of each SOURCE");
        WindBoxes x = watched(Street.of(100));
        x.law(100, 0);
        Due.cuts("no tenth", x, 0, 0, 0, 0);
        for (int tenths = 1; tenths <= 10; tenths++) {
            x.law(100 - 10 * tenths, 0);
            Due.cuts(tenths + " tenths", x, tenths, 0, 0, tenths);
        }
    }

    private static void sumOfSharesAboveTenLimits() {
        Due.sentence("an HOUR is above, if the sum of its SHARES by (10 - tenths) is above 10 L");
        WindBoxes x = watched(new Street().hour(10, 20, 30));
        x.law(57, 0);
        Due.cuts("30 by 9, and 300, is 570: not above", x, 0, 0, 1, 1);
        x.law(56, 0);
        Due.cuts("570 is above 560, 540 is not", x, 0, 0, 2, 2);
        x.price(2, 3);
        Due.cuts("20 by 8, and 400, is 560: not above", x, 0, 2, 0, 2);
        x.price(1, 3);
        Due.cuts("10 by 9, 30 by 9, and 200, is 560: not above", x, 1, 0, 1, 4);
    }

    private static void cutsAreNotCutDown() {
        Due.sentence("by (10 - tenths) is above 10 L");
        WindBoxes x = watched(Street.of(5));
        x.law(4, 0);
        Due.cuts("45 is above 40, though 4.5 cut down is not above 4", x, 2, 0, 0, 2);
        x = watched(Street.of(1));
        x.law(0, 0);
        Due.cuts("any tenth of one grain is above 0", x, 10, 0, 0, 10);
        x = watched(new Street().hour(1, 1, 3));
        x.law(4, 0);
        x.price(2, 2);
        Due.cuts("parts of grains are put together: 10, 1 by 9 and 3 by 7 are 40", x, 0, 1, 3, 7);
    }

    private static void keepTheLawAtEachDoor() {
        Due.sentence("THE CHEAPEST CUTS keep THE LAW");
        WindBoxes x = new WindBoxes();
        Due.steady(x, 0, 0, 100);
        Due.steady(x, 1, 4, 100);
        Due.steady(x, 2, 8, 100);
        x.door(1, 4);
        x.door(2, 8);
        x.hours(2, 0);
        for (int door = 0; door < 3; door++) {
            x.watch(door, true);
        }
        x.law(140, 0);
        Due.cuts("each door needs a cut", x, 3, 3, 3, 9);
        x.watch(1, false);
        Due.cuts("one is not watched", x, 3, 0, 3, 6);
        x.law(140, 1);
        Due.cuts("one hour may be above, at each door", x, 0, 0, 0, 0);
        x.law(60, 1);
        Due.cuts("of two hours the lesser must be kept", x, 4, 0, 4, 8);
    }

    private static void leastSum() {
        Due.sentence("for the least sum of tenths by PRICES");
        WindBoxes x = watched(new Street().hour(100, 200, 300));
        x.law(570, 0);
        Due.cuts("one tenth of the third", x, 0, 0, 1, 1);
        x.price(2, 2);
        Due.cuts("2 is the same as 2", x, 0, 0, 1, 2);
        x.price(2, 4);
        Due.cuts("two of the second are 2, one and one too", x, 0, 2, 0, 2);
        x.price(1, 3);
        Due.cuts("three of the first are 3", x, 3, 0, 0, 3);
        x.price(0, 2);
        Due.cuts("the third is 4, the first and the second 5", x, 0, 0, 1, 4);
        x.price(0, 0);
        Due.cuts("what costs nothing is cut first", x, 3, 0, 0, 0);
    }

    /** Three sources of one share each: all cuts of as many tenths are as good. */
    private static WindBoxes alike(int limit) {
        WindBoxes x = watched(new Street().hour(100, 100, 100));
        x.law(limit, 0);
        return x;
    }

    private static void sourceZeroFirst() {
        Due.sentence("of such the first by the tenths of SOURCE 0 (the fewer first)");
        WindBoxes x = alike(80);
        Due.cuts("22 tenths", x, 2, 10, 10, 22);
        x = alike(100);
        Due.cuts("20 tenths", x, 0, 10, 10, 20);
        x.price(0, 0);
        x.price(1, 0);
        x.price(2, 0);
        Due.cuts("the fewer too where they cost nothing", x, 0, 10, 10, 0);
    }

    private static void thenSourceOne() {
        Due.sentence("then 1");
        WindBoxes x = alike(150);
        Due.cuts("15 tenths", x, 0, 5, 10, 15);
        x = alike(199);
        Due.cuts("11 tenths", x, 0, 1, 10, 11);
        x = alike(200);
        Due.cuts("10 tenths", x, 0, 0, 10, 10);
        x.price(2, 1000);
        Due.cuts("the third is dear", x, 0, 10, 0, 10);
    }

    private static void thenSourceTwo() {
        Due.sentence("then 2");
        WindBoxes x = alike(300);
        x.price(2, 0);
        Due.cuts("no tenth is needed, none is cut though it costs nothing", x, 0, 0, 0, 0);
        x.law(295, 0);
        Due.cuts("one is needed", x, 0, 0, 1, 0);
        x.law(290, 0);
        Due.cuts("one is enough", x, 0, 0, 1, 0);
        x.law(289, 0);
        Due.cuts("two are needed", x, 0, 0, 2, 0);
    }

    private static void watchCounts() {
        Due.sentence("A DOOR is watched, or not any more: how many are.");
        WindBoxes x = new WindBoxes();
        for (int door = 0; door < 4; door++) {
            Due.same("watch(" + door + ", false)", x.watch(door, false), door);
            Due.same("watch(" + door + ", true)", x.watch(door, true), door + 1);
            Due.same("watch(" + door + ", true) again", x.watch(door, true), door + 1);
        }
        for (int door = 0; door < 4; door++) {
            Due.same("watch(" + door + ", false)", x.watch(door, false), 3 - door);
            Due.same("watch(" + door + ", false) again", x.watch(door, false), 3 - door);
        }
    }

    private static void watchBad() {
        Due.sentence("watch: BAD.");
        WindBoxes x = new WindBoxes();
        for (int door : new int[] {-1, 4, MIN, MAX}) {
            Due.same("watch(" + door + ", true)", x.watch(door, true), BAD);
            Due.same("watch(" + door + ", false)", x.watch(door, false), BAD);
        }
        Due.same("none is watched", x.watch(0, false), 0);
    }

    private static void lawRange() {
        Due.sentence("THE LAW (L 0 .. 1000000000; n 0 .. 100)");
        WindBoxes x = new WindBoxes();
        x.watch(0, true);
        Due.same("law(0, 0)", x.law(0, 0), 1);
        Due.same("law(0, 100)", x.law(0, 100), 1);
        Due.same("law(1000000000, 0)", x.law(1000000000, 0), 1);
        Due.same("law(1000000000, 100)", x.law(1000000000, 100), 1);
        Due.same("law(-1, 0)", x.law(-1, 0), BAD);
        Due.same("law(1000000001, 0)", x.law(1000000001, 0), BAD);
        Due.same("law(0, -1)", x.law(0, -1), BAD);
        Due.same("law(0, 101)", x.law(0, 101), BAD);
    }

    private static void lawAtFirst() {
        Due.sentence("0 of 0 at first");
        WindBoxes x = watched(Street.of(1));
        Due.cuts("one grain in one hour is too much", x, 10, 0, 0, 10);
        x = watched(Street.of(0, 0));
        Due.cuts("no grain is not", x, 0, 0, 0, 0);
    }

    private static void lawAnswersDoors() {
        Due.sentence("how many watched DOORS it is kept at");
        WindBoxes x = new WindBoxes();
        Due.steady(x, 0, 0, 10);
        Due.steady(x, 1, 1, 20);
        x.door(1, 1);
        x.door(2, 2);
        x.hours(1, 0);
        x.door(3, 0);
        int kept = 0;
        for (int door = 0; door < 4; door++) {
            x.watch(door, true);
            Due.same("with door " + door + ", L 20", x.law(20, 0), door + 1);
            kept += door == 1 ? 0 : 1;
            Due.same("with door " + door + ", L 19", x.law(19, 0), kept);
            Due.same("with door " + door + ", L 9", x.law(9, 0), Math.max(0, door - 1));
            Due.same("with door " + door + ", one may be", x.law(0, 1), door + 1);
        }
        Due.same("no cuts are thought of", x.cheapest(3) + x.law(0, 0), 2);
    }

    private static void lawBad() {
        Due.sentence("law: BAD.");
        WindBoxes x = watched(Street.of(100));
        x.law(90, 0);
        for (int odd : new int[] {-1, MIN, MAX}) {
            Due.same("law(" + odd + ", 100)", x.law(odd, 100), BAD);
            Due.same("law(1000, " + odd + ")", x.law(1000, odd), BAD);
        }
        Due.same("law(1000, 101)", x.law(1000, 101), BAD);
        Due.same("law(1000000001, 100)", x.law(1000000001, 100), BAD);
        Due.cuts("the law is as it was", x, 1, 0, 0, 1);
    }

    private static void priceRange() {
        Due.sentence("each tenth at a PRICE (0 .. 1000");
        WindBoxes x = new WindBoxes();
        for (int source = 0; source < 3; source++) {
            Due.same("price(" + source + ", 1000)", x.price(source, 1000), 1);
            Due.same("price(" + source + ", 1001)", x.price(source, 1001), BAD);
            Due.same("price(" + source + ", 0)", x.price(source, 0), 1000);
            Due.same("price(" + source + ", -1)", x.price(source, -1), BAD);
            Due.same("price(" + source + ", 5)", x.price(source, 5), 0);
        }
    }

    private static void priceAtFirst() {
        Due.sentence("1 at first)");
        for (int source = 0; source < 3; source++) {
            Due.same("price(" + source + ", 0)", new WindBoxes().price(source, 0), 1);
        }
        Due.cuts("all at 1", watched(new Street().hour(1, 1, 1)), 10, 10, 10, 30);
    }

    private static void priceAnswersWhatItWas() {
        Due.sentence("A PRICE: what it was. BAD.");
        WindBoxes x = new WindBoxes();
        for (int odd : new int[] {-1, MIN, MAX}) {
            Due.same("price(" + odd + ", 2)", x.price(odd, 2), BAD);
            Due.same("price(0, " + odd + ")", x.price(0, odd), BAD);
        }
        Due.same("price(3, 2)", x.price(3, 2), BAD);
        Due.same("price(0, 7)", x.price(0, 7), 1);
        Due.same("price(0, 7) again", x.price(0, 7), 7);
        Due.same("another source's", x.price(2, 8), 1);
        Due.same("price(0, 0)", x.price(0, 0), 7);
    }

    private static void cheapestOfEachKind() {
        Due.sentence("tenths of SOURCE 0 .. 2, 3 the sum of tenths by PRICES");
        WindBoxes x = new WindBoxes();
        for (int source = 0; source < 3; source++) {
            Due.steady(x, source, source, 100);
            x.door(source, source);
            x.watch(source, true);
            x.price(source, 10 + source);
        }
        x.hours(1, 0);
        x.law(50, 0);
        Due.cuts("each its own", x, 5, 5, 5, 50 + 55 + 60);
        Due.steady(x, 1, 1, 400);
        x.hours(1, 0);
        Due.cuts("the latest hours: 200, 500, 200", x, 8, 9, 8, 80 + 99 + 96);
    }

    private static void cheapestBad() {
        Due.sentence("cheapest: BAD.");
        WindBoxes x = watched(Street.of(100));
        for (int what : new int[] {-1, 4, MIN, MAX}) {
            Due.same("cheapest(" + what + ")", x.cheapest(what), BAD);
        }
        Due.same("cheapest(3)", x.cheapest(3), 10);
    }

    private static void thereAlwaysAreSome() {
        Due.sentence("(There always are some: all of them, 10 each.)");
        WindBoxes x = watched(new Street().hour(1, 1, 1));
        for (int source = 0; source < 3; source++) {
            x.price(source, 1000);
        }
        Due.cuts("at the greatest prices", x, 10, 10, 10, 30000);
        for (int source = 0; source < 3; source++) {
            x.price(source, 0);
        }
        Due.cuts("at no price", x, 10, 10, 10, 0);
    }

    private static void greatestShares() {
        Due.sentence("the sum of its SHARES by (10 - tenths), 10 L (of the greatest RATES and L)");
        WindBoxes x = new WindBoxes();
        for (int source = 0; source < 3; source++) {
            Due.steady(x, source, 0, 1000000);
        }
        for (int i = 0; i < 400; i++) {
            x.hours(50, 0);
        }
        x.watch(0, true);
        Due.same("each hour is near 2997000000", x.law(1000000000, 99), 0);
        Due.cuts("one source may stay: 999000000 is not above", x, 0, 10, 10, 20);
        Due.same("all may be above", x.law(1000000000, 100), 1);
        x.law(999000000, 0);
        Due.cuts("just a third", x, 0, 10, 10, 20);
        x.law(990000000, 0);
        Due.cuts("less than a third", x, 1, 10, 10, 21);
    }
}

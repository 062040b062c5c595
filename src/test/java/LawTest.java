/** Promises 20 to 23: watched doors, the law, prices and the cheapest cuts. */
public final class LawTest {
    private static final int BAD = -1;
    private static final int MIN = Integer.MIN_VALUE, MAX = Integer.MAX_VALUE;

    public static void main(String[] args) {
        watch();
        law();
        price();
        cheapest();
        firstLaw();
        order();
        lostHoursBreakNoLaw();
        twoDoors();
        Due.end();
    }

    private static void watch() {
        WindBoxes x = new WindBoxes();
        Due.same("watch(-1, true)", x.watch(-1, true), BAD);
        Due.same("watch(4, true)", x.watch(4, true), BAD);
        Due.same("watch(3, true)", x.watch(3, true), 1);
        Due.same("watch(3, true) again", x.watch(3, true), 1);
        Due.same("watch(0, true)", x.watch(0, true), 2);
        Due.same("watch(1, false)", x.watch(1, false), 2);
        Due.same("watch(3, false)", x.watch(3, false), 1);
        Due.same("watch(4, false)", x.watch(4, false), BAD);
        Due.same("a door is watched on where it moves", x.door(0, 5) + x.watch(1, true), 2);
    }

    /** Three sources of 10, 20 and 70 in box 0, and three hours: 100, 200, 300. */
    private static WindBoxes three() {
        WindBoxes x = new WindBoxes();
        Due.steady(x, 0, 0, 10);
        Due.steady(x, 1, 0, 20);
        Due.steady(x, 2, 0, 70);
        x.hours(3, 0);
        return x;
    }

    private static void law() {
        WindBoxes x = three();
        int[][] bad = {{-1, 0}, {1000000001, 0}, {0, -1}, {0, 101}, {MIN, 0}, {MAX, 0}, {0, MIN}, {0, MAX}};
        for (int[] b : bad) {
            Due.same("law(" + b[0] + ", " + b[1] + ")", x.law(b[0], b[1]), BAD);
        }
        Due.same("no door is watched", x.law(1000000000, 100), 0);
        x.watch(1, true);
        x.watch(2, true);
        x.door(2, 8);
        Due.same("a door without hours keeps any law", x.law(0, 0), 1);
        Due.same("300 is not above 300", x.law(300, 0), 2);
        Due.same("300 is above 299", x.law(299, 0), 1);
        Due.same("one may be", x.law(299, 1), 2);
        Due.same("two are above 199", x.law(199, 1), 1);
        Due.same("two may be", x.law(199, 2), 2);
        Due.same("all may be", x.law(0, 100), 2);
        Due.same("the law is set, kept or not", x.law(299, 0), 1);
        Due.same("so cuts are needed", x.cheapest(3), 1);
        Due.same("a refused law changes nothing", x.law(1000, 101), BAD);
        Due.same("so cuts are needed", x.cheapest(3), 1);
    }

    private static void price() {
        WindBoxes x = new WindBoxes();
        int[][] bad = {{-1, 0}, {3, 0}, {0, -1}, {0, 1001}, {MIN, 0}, {MAX, 0}, {0, MIN}, {0, MAX}};
        for (int[] b : bad) {
            Due.same("price(" + b[0] + ", " + b[1] + ")", x.price(b[0], b[1]), BAD);
        }
        for (int source = 0; source < 3; source++) {
            Due.same("a price is 1 at first", x.price(source, 1000), 1);
            Due.same("price(" + source + ", 0)", x.price(source, 0), 1000);
            Due.same("refused", x.price(source, 1001), BAD);
            Due.same("price(" + source + ", 7)", x.price(source, 7), 0);
        }
    }

    private static void cheapest() {
        WindBoxes x = three();
        int[] bad = {-1, 4, MIN, MAX};
        for (int what : bad) {
            Due.same("cheapest(" + what + ")", x.cheapest(what), BAD);
        }
        Due.cuts("no door watched", x, 0, 0, 0, 0);
        x.watch(0, true);
        Due.cuts("the law of 0 of 0 at first", x, 10, 10, 10, 30);
        x.law(300, 0);
        Due.cuts("kept without cuts", x, 0, 0, 0, 0);
        x.law(279, 0);
        Due.cuts("21 must go, a tenth is 3, 6, 21", x, 0, 0, 1, 1);
        x.law(278, 0);
        Due.cuts("22 must go, the fewer of source 1 first", x, 0, 0, 2, 2);
        x.price(2, 30);
        Due.cuts("the third is dear", x, 0, 4, 0, 4);
        x.price(1, 3);
        Due.cuts("the second is dear too", x, 8, 0, 0, 8);
        x.law(278, 1);
        Due.cuts("one hour above is allowed", x, 0, 0, 0, 0);
        x.law(195, 1);
        Due.cuts("of 200 5 must go, a tenth is 2, 4, 14", x, 3, 0, 0, 3);
        x.price(0, 1000);
        x.price(1, 1000);
        x.price(2, 1000);
        x.law(0, 2);
        Due.cuts("all must go, at the greatest price", x, 10, 10, 10, 30000);
        x.law(0, 3);
        Due.cuts("all three hours may be above", x, 0, 0, 0, 0);
    }

    private static void firstLaw() {
        WindBoxes x = new WindBoxes();
        Due.daily(x, 1, 0, 1, 0);
        x.hours(1, 0);
        x.watch(0, true);
        Due.cuts("one grain in one hour is above 0 of 0", x, 0, 10, 0, 10);
    }

    /** Of cuts as cheap the fewer tenths of source 0 come first, then of 1, then of 2; a price of 0 too. */
    private static void order() {
        WindBoxes x = new WindBoxes();
        for (int source = 0; source < 3; source++) {
            Due.steady(x, source, 0, 100);
        }
        x.hours(1, 0);
        x.watch(0, true);
        x.law(150, 0);
        Due.cuts("15 tenths, any", x, 0, 5, 10, 15);
        x.price(0, 0);
        Due.cuts("source 0 costs nothing", x, 10, 0, 5, 5);
        x.price(1, 0);
        Due.cuts("nor does 1", x, 5, 10, 0, 0);
        x.price(2, 0);
        Due.cuts("nothing costs", x, 0, 5, 10, 0);
        x.law(299, 0);
        Due.cuts("one tenth of any", x, 0, 0, 1, 0);
        x.price(2, 1);
        Due.cuts("one tenth, 2 costs", x, 0, 1, 0, 0);
        x.price(1, 1);
        Due.cuts("one tenth, 1 and 2 cost", x, 1, 0, 0, 0);
    }

    private static void lostHoursBreakNoLaw() {
        WindBoxes x = new WindBoxes();
        Due.steady(x, 0, 0, 100);
        x.watch(0, true);
        x.hours(1, 0);
        x.lose(0, true);
        x.hours(2, 0);
        Due.same("law(100, 0)", x.law(100, 0), 1);
        Due.cuts("only LOST hours are above", x, 0, 0, 0, 0);
        Due.same("law(99, 0)", x.law(99, 0), 0);
        Due.cuts("10 of 100 a tenth", x, 1, 0, 0, 1);
        x.door(0, 0);
        Due.same("what goes breaks no law", x.law(0, 0), 1);
        Due.cuts("what goes breaks no law", x, 0, 0, 0, 0);
    }

    private static void twoDoors() {
        WindBoxes x = new WindBoxes();
        Due.steady(x, 0, 2, 100);
        Due.steady(x, 1, 5, 500);
        x.door(1, 2);
        x.door(2, 5);
        x.hours(1, 0);
        x.watch(1, true);
        x.law(50, 0);
        Due.cuts("door 1 alone", x, 5, 0, 0, 5);
        x.watch(2, true);
        Due.cuts("both doors", x, 5, 9, 0, 14);
        x.watch(1, false);
        Due.cuts("door 2 alone", x, 0, 9, 0, 9);
        Due.same("law(499, 0)", x.law(499, 0), 0);
        Due.same("law(500, 0)", x.law(500, 0), 1);
    }
}

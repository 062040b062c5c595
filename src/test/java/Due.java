/** What the project's tests share: counting wrong answers, and the ways to fill an object. */
final class Due {
    private static int wrong = 0;
    private static int asked = 0;
    private static String words = "";

    private Due() {
    }

    /** The document's words that the next answers are asked for: told beside each wrong one. */
    static void sentence(String of) {
        words = " (" + of + ")";
    }

    static void same(String call, long got, long want) {
        asked++;
        if (got != want) {
            wrong++;
            System.out.println(call + " answered " + got + ", due is " + want + words);
        }
    }

    static void holds(String what, boolean is) {
        same(what, is ? 1 : 0, 1);
    }

    static void end() {
        System.out.println(asked + " answers, " + wrong + " not as due");
        if (wrong != 0) {
            System.exit(1);
        }
    }

    /** A source that gives off the same each hour of the day, by way of sheet 3. */
    static void steady(WindBoxes x, int source, int box, int rate) {
        int[] rates = new int[24];
        java.util.Arrays.fill(rates, rate);
        daily(x, source, box, rates);
    }

    static void daily(WindBoxes x, int source, int box, int... rates) {
        int sum = 0;
        same("sheet(3, 1, 24)", x.sheet(3, 1, 24), 24);
        for (int i = 0; i < rates.length; i++) {
            same("item(3, 1, " + i + ", ..)", x.item(3, 1, i, rates[i]), 1);
            sum += rates[i];
        }
        same("source(" + source + ", " + box + ", 3, 1)", x.source(source, box, 3, 1), sum);
    }

    static void cuts(String when, WindBoxes x, int cut0, int cut1, int cut2, int cost) {
        same(when + ": cheapest(0)", x.cheapest(0), cut0);
        same(when + ": cheapest(1)", x.cheapest(1), cut1);
        same(when + ": cheapest(2)", x.cheapest(2), cut2);
        same(when + ": cheapest(3)", x.cheapest(3), cost);
    }
}

/** The edges that the document names for sheets and sources: Terms 2 and promises 6 to 9, sentence by sentence. */
public final class EdgeSourceTest {
    private static final int BAD = -1, NOT = -2, NULL = -11, CAST = -12, INDEX = -13, SIZE = -14;
    private static final int MIN = Integer.MIN_VALUE, MAX = Integer.MAX_VALUE;

    public static void main(String[] args) {
        sheets();
        nothingAtFirst();
        lanes();
        rowLengths();
        itemsAtFirst();
        sheetHoldsANewRow();
        sheetBad();
        sheetSize();
        dropAnswersItems();
        dropRefuses();
        itemIndex();
        itemLowestBits();
        itemRefuses();
        sourceTakesAll24();
        sourceSum();
        sourceFromNowOn();
        sourceBad();
        sourceNullAndCast();
        sourceIndex();
        sourceNot();
        Due.end();
    }

    private static void sheets() {
        Due.sentence("SHEETS 0 .. 3");
        WindBoxes x = new WindBoxes();
        for (int sheet = 0; sheet < 4; sheet++) {
            Due.same("sheet(" + sheet + ", 0, ..)", x.sheet(sheet, 0, sheet + 1), sheet + 1);
        }
        for (int sheet : new int[] {-1, 4, MIN, MAX}) {
            Due.same("sheet(" + sheet + ", 0, 1)", x.sheet(sheet, 0, 1), BAD);
            Due.same("drop(" + sheet + ")", x.drop(sheet), BAD);
            Due.same("item(" + sheet + ", 0, 0, 1)", x.item(sheet, 0, 0, 1), BAD);
            Due.same("source(0, 0, " + sheet + ", 0)", x.source(0, 0, sheet, 0), BAD);
        }
        for (int sheet = 0; sheet < 4; sheet++) {
            Due.same("each holds its own: drop(" + sheet + ")", x.drop(sheet), sheet + 1);
        }
    }

    private static void nothingAtFirst() {
        Due.sentence("hold nothing (at first)");
        WindBoxes x = new WindBoxes();
        for (int sheet = 0; sheet < 4; sheet++) {
            for (int lane = 0; lane < 2; lane++) {
                Due.same("item(" + sheet + ", " + lane + ", 0, 0)", x.item(sheet, lane, 0, 0), NULL);
                Due.same("source(0, 0, " + sheet + ", " + lane + ")", x.source(0, 0, sheet, lane), NULL);
            }
            Due.same("drop(" + sheet + ")", x.drop(sheet), NULL);
        }
    }

    private static void lanes() {
        Due.sentence("a row of a LANE: 0 shorts, 1 ints");
        WindBoxes x = new WindBoxes();
        Due.same("sheet(0, 0, 24)", x.sheet(0, 0, 24), 24);
        Due.same("sheet(1, 1, 24)", x.sheet(1, 1, 24), 24);
        Due.same("70000 into shorts", x.item(0, 0, 0, 70000), 1);
        Due.same("70000 into ints", x.item(1, 1, 0, 70000), 1);
        Due.same("shorts hold 16 bits", x.source(0, 0, 0, 0), 70000 - 65536);
        Due.same("ints hold all", x.source(0, 0, 1, 1), 70000);
        for (int lane : new int[] {-1, 2, MIN, MAX}) {
            Due.same("sheet(0, " + lane + ", 1)", x.sheet(0, lane, 1), BAD);
            Due.same("item(0, " + lane + ", 0, 1)", x.item(0, lane, 0, 1), BAD);
            Due.same("source(0, 0, 0, " + lane + ")", x.source(0, 0, 0, lane), BAD);
        }
    }

    private static void rowLengths() {
        Due.sentence("of 0 to 24 items");
        WindBoxes x = new WindBoxes();
        for (int lane = 0; lane < 2; lane++) {
            for (int n = 0; n <= 24; n++) {
                Due.same("sheet(2, " + lane + ", " + n + ")", x.sheet(2, lane, n), n);
                Due.same("it has so many", x.drop(2), n);
            }
        }
    }

    private static void itemsAtFirst() {
        Due.sentence("items (0 at first)");
        for (int lane = 0; lane < 2; lane++) {
            WindBoxes x = new WindBoxes();
            x.sheet(0, lane, 24);
            Due.same("the first row", x.source(0, 0, 0, lane), 0);
            for (int i = 0; i < 24; i++) {
                x.item(0, lane, i, 5);
            }
            x.sheet(0, 1 - lane, 24);
            Due.same("a row of the other lane behind a full one", x.source(0, 0, 0, 1 - lane), 0);
            x.item(0, 1 - lane, 23, 6);
            x.sheet(0, 1 - lane, 1);
            x.sheet(0, 1 - lane, 24);
            Due.same("a long row behind a short one", x.source(0, 0, 0, 1 - lane), 0);
            x.item(0, 1 - lane, 0, 7);
            x.drop(0);
            x.sheet(0, 1 - lane, 24);
            Due.same("a row behind a dropped one", x.source(0, 0, 0, 1 - lane), 0);
        }
    }

    private static void sheetHoldsANewRow() {
        Due.sentence("A SHEET holds a new row of a LANE: n.");
        WindBoxes x = new WindBoxes();
        x.sheet(3, 0, 24);
        Due.same("ints in the place of shorts", x.sheet(3, 1, 0), 0);
        Due.same("the shorts are gone", x.item(3, 0, 0, 0), CAST);
        Due.same("the new row is empty", x.item(3, 1, 0, 0), INDEX);
        Due.same("shorts in the place of ints", x.sheet(3, 0, 1), 1);
        Due.same("the ints are gone", x.item(3, 1, 0, 0), CAST);
        Due.same("the new row has one item", x.item(3, 0, 0, 0), 1);
        Due.same("and no more", x.item(3, 0, 1, 0), INDEX);
    }

    private static void sheetBad() {
        Due.sentence("BAD: also n above 24");
        WindBoxes x = new WindBoxes();
        for (int n : new int[] {25, 26, 48, MAX}) {
            Due.same("sheet(0, 0, " + n + ")", x.sheet(0, 0, n), BAD);
            Due.same("sheet(3, 1, " + n + ")", x.sheet(3, 1, n), BAD);
        }
        Due.same("nothing is held", x.drop(0), NULL);
    }

    private static void sheetSize() {
        Due.sentence("SIZE: n below 0");
        WindBoxes x = new WindBoxes();
        for (int n : new int[] {-1, -2, -24, -25, MIN}) {
            Due.same("sheet(1, 0, " + n + ")", x.sheet(1, 0, n), SIZE);
            Due.same("sheet(1, 1, " + n + ")", x.sheet(1, 1, n), SIZE);
            Due.same("BAD is ahead: sheet(4, 1, " + n + ")", x.sheet(4, 1, n), BAD);
            Due.same("BAD is ahead: sheet(1, 2, " + n + ")", x.sheet(1, 2, n), BAD);
        }
        Due.same("nothing is held", x.drop(1), NULL);
    }

    private static void dropAnswersItems() {
        Due.sentence("A SHEET holds nothing: how many items it had.");
        WindBoxes x = new WindBoxes();
        x.sheet(0, 0, 0);
        x.sheet(1, 1, 24);
        Due.same("a row of no items is a row", x.drop(0), 0);
        Due.same("a full row", x.drop(1), 24);
        Due.same("drop(0) again", x.drop(0), NULL);
        Due.same("drop(1) again", x.drop(1), NULL);
        Due.same("item(1, 1, 0, 0)", x.item(1, 1, 0, 0), NULL);
        Due.same("source(0, 0, 1, 1)", x.source(0, 0, 1, 1), NULL);
    }

    private static void dropRefuses() {
        Due.sentence("drop: BAD; NULL.");
        WindBoxes x = new WindBoxes();
        Due.same("drop(-1)", x.drop(-1), BAD);
        Due.same("drop(4)", x.drop(4), BAD);
        Due.same("drop(3)", x.drop(3), NULL);
        x.sheet(2, 0, 5);
        Due.same("drop(3), another one holds a row", x.drop(3), NULL);
        Due.same("drop(2)", x.drop(2), 5);
    }

    private static void itemIndex() {
        Due.sentence("item: INDEX");
        WindBoxes x = new WindBoxes();
        for (int n : new int[] {0, 1, 2, 23, 24}) {
            for (int lane = 0; lane < 2; lane++) {
                x.sheet(1, lane, n);
                for (int i : new int[] {-1, n, n + 1, 24, 25, MIN, MAX}) {
                    Due.same("item " + i + " of " + n, x.item(1, lane, i, 1), INDEX);
                }
                Due.same("the first of " + n, x.item(1, lane, 0, 1), n > 0 ? 1 : INDEX);
                Due.same("the last of " + n, x.item(1, lane, n - 1, 1), n > 0 ? 1 : INDEX);
            }
        }
    }

    /** The sum of the rates with v as the one item of a row that is else 0. */
    private static int taken(int lane, int v) {
        WindBoxes x = new WindBoxes();
        x.sheet(0, lane, 24);
        Due.same("item(0, " + lane + ", 11, " + v + ")", x.item(0, lane, 11, v), 1);
        return x.source(0, 0, 0, lane);
    }

    private static void itemLowestBits() {
        Due.sentence("Item i of a SHEET .. becomes v, its lowest bits: 1.");
        int[][] shorts = {{32767, 32767}, {32768, NOT}, {65535, NOT}, {65536, 0}, {65537, 1}, {-1, NOT}, {-32768, NOT},
            {-32769, 32767}, {-65535, 1}, {1000000, 16960}, {1000001, 16961}, {MIN, 0}, {MAX, NOT}};
        for (int[] s : shorts) {
            Due.same(s[0] + " as a short", taken(0, s[0]), s[1]);
        }
        int[][] ints = {{32767, 32767}, {32768, 32768}, {65535, 65535}, {65536, 65536}, {-1, NOT}, {-65535, NOT},
            {1000000, 1000000}, {1000001, NOT}, {MIN, NOT}, {MAX, NOT}};
        for (int[] s : ints) {
            Due.same(s[0] + " as an int", taken(1, s[0]), s[1]);
        }
    }

    private static void itemRefuses() {
        Due.sentence("item: BAD; NULL; CAST; INDEX.");
        WindBoxes x = new WindBoxes();
        x.sheet(1, 1, 3);
        Due.same("a sheet that is none", x.item(4, 0, -1, 0), BAD);
        Due.same("BAD ahead of NULL", x.item(0, 2, 0, 0), BAD);
        Due.same("BAD ahead of CAST and INDEX", x.item(1, -1, 9, 0), BAD);
        Due.same("NULL ahead of INDEX", x.item(0, 1, -1, 0), NULL);
        Due.same("CAST", x.item(1, 0, 0, 0), CAST);
        Due.same("CAST ahead of INDEX", x.item(1, 0, 3, 0), CAST);
        Due.same("INDEX", x.item(1, 1, 3, 0), INDEX);
    }

    private static void sourceTakesAll24() {
        Due.sentence("its RATES are all 24 items of a SHEET");
        for (int lane = 0; lane < 2; lane++) {
            WindBoxes x = new WindBoxes();
            x.sheet(0, lane, 24);
            for (int i = 0; i < 24; i++) {
                x.item(0, lane, i, 1 << (i % 15));
            }
            Due.same("their sum", x.source(2, 8, 0, lane), 32767 + 511);
            for (int i = 0; i < 24; i++) {
                x.hours(1, 1000);
                Due.same("washed by hour " + i, x.total(2, 1), (i < 15 ? 0 : 32767) + (2L << (i % 15)) - 1);
            }
        }
    }

    private static void sourceSum() {
        Due.sentence("from now on: their sum.");
        WindBoxes x = new WindBoxes();
        x.sheet(0, 0, 24);
        x.sheet(1, 1, 24);
        Due.same("of none", x.source(0, 0, 0, 0), 0);
        for (int i = 0; i < 24; i++) {
            x.item(0, 0, i, 32767);
            x.item(1, 1, i, 1000000);
        }
        Due.same("of the greatest shorts", x.source(0, 0, 0, 0), 24 * 32767);
        Due.same("of the greatest rates", x.source(0, 8, 1, 1), 24000000);
        Due.same("the same sheet for another source", x.source(2, 4, 1, 1), 24000000);
    }

    private static void sourceFromNowOn() {
        Due.sentence("A SOURCE stands in a BOX, .. from now on");
        WindBoxes x = new WindBoxes();
        Due.daily(x, 0, 0, 10, 20);
        x.hours(1, 0);
        Due.daily(x, 0, 8, 1000, 300, 7);
        Due.same("no hour comes again", x.total(0, 0), 10);
        x.hours(1, 0);
        Due.same("the hour of the day goes on", x.grains(0, 8), 300);
        Due.same("what was given off stays", x.grains(0, 0), 10);
        x.item(3, 1, 2, 900000);
        x.drop(3);
        x.hours(1, 0);
        Due.same("its rates are the items as they were taken", x.grains(0, 8), 307);
    }

    private static void sourceBad() {
        Due.sentence("source: BAD");
        WindBoxes x = new WindBoxes();
        x.sheet(0, 1, 24);
        for (int odd : new int[] {-1, MIN, MAX}) {
            Due.same("source(" + odd + ", 0, 0, 1)", x.source(odd, 0, 0, 1), BAD);
            Due.same("source(0, " + odd + ", 0, 1)", x.source(0, odd, 0, 1), BAD);
        }
        Due.same("source(3, 0, 0, 1)", x.source(3, 0, 0, 1), BAD);
        Due.same("source(0, 9, 0, 1)", x.source(0, 9, 0, 1), BAD);
        Due.same("source(2, 8, 0, 1)", x.source(2, 8, 0, 1), 0);
        Due.same("BAD ahead of NULL", x.source(3, 0, 1, 1), BAD);
        Due.same("BAD ahead of CAST", x.source(0, 9, 0, 0), BAD);
        x.item(0, 1, 0, -1);
        Due.same("BAD ahead of NOT", x.source(0, 9, 0, 1), BAD);
        x.sheet(0, 1, 2);
        Due.same("BAD ahead of INDEX", x.source(-1, 0, 0, 1), BAD);
    }

    private static void sourceNullAndCast() {
        Due.sentence("source: NULL; CAST");
        WindBoxes x = new WindBoxes();
        Due.same("nothing in the sheet", x.source(0, 0, 3, 0), NULL);
        x.sheet(3, 0, 24);
        Due.same("shorts taken as ints", x.source(0, 0, 3, 1), CAST);
        x.item(3, 0, 0, -1);
        Due.same("CAST ahead of NOT", x.source(0, 0, 3, 1), CAST);
        x.sheet(3, 1, 0);
        Due.same("CAST ahead of INDEX", x.source(0, 0, 3, 0), CAST);
    }

    private static void sourceIndex() {
        Due.sentence("INDEX: it has not 24 items");
        WindBoxes x = new WindBoxes();
        for (int lane = 0; lane < 2; lane++) {
            for (int n = 0; n <= 24; n++) {
                x.sheet(0, lane, n);
                Due.same("of " + n + " items", x.source(0, 0, 0, lane), n == 24 ? 0 : INDEX);
            }
        }
        x.sheet(0, 1, 23);
        x.item(0, 1, 22, -1);
        Due.same("INDEX ahead of NOT", x.source(0, 0, 0, 1), INDEX);
    }

    private static void sourceNot() {
        Due.sentence("NOT: one is not as told.");
        for (int v : new int[] {-1, 1000001, MIN, MAX}) {
            WindBoxes x = new WindBoxes();
            x.sheet(0, 1, 24);
            for (int i = 0; i < 24; i++) {
                x.item(0, 1, i, v);
                Due.same("item " + i + " is " + v, x.source(0, 0, 0, 1), NOT);
                x.item(0, 1, i, i % 2 == 0 ? 0 : 1000000);
                Due.same("item " + i + " is as told again", x.source(0, 0, 0, 1), (i + 1) / 2 * 1000000);
            }
        }
        WindBoxes x = new WindBoxes();
        x.sheet(0, 1, 24);
        x.item(0, 1, 0, 1000001);
        x.item(0, 1, 1, -1);
        Due.same("not as told, though their sum is", x.source(0, 0, 0, 1), NOT);
    }
}

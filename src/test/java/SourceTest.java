/** Promises 6 to 9: sheets, their items, and the sources that take their rates from them. */
public final class SourceTest {
    private static final int BAD = -1, NOT = -2, NULL = -11, CAST = -12, INDEX = -13, SIZE = -14;
    private static final int MIN = Integer.MIN_VALUE, MAX = Integer.MAX_VALUE;

    public static void main(String[] args) {
        sheet();
        drop();
        item();
        sourceRefuses();
        sourceTakes();
        Due.end();
    }

    private static void sheet() {
        WindBoxes x = new WindBoxes();
        for (int sheet = 0; sheet < 4; sheet++) {
            for (int lane = 0; lane < 2; lane++) {
                Due.same("sheet(" + sheet + ", " + lane + ", 24)", x.sheet(sheet, lane, 24), 24);
                Due.same("sheet(" + sheet + ", " + lane + ", 0)", x.sheet(sheet, lane, 0), 0);
                Due.same("an empty row has no item 0", x.item(sheet, lane, 0, 1), INDEX);
            }
        }
        Due.same("sheet(-1, 0, 1)", x.sheet(-1, 0, 1), BAD);
        Due.same("sheet(4, 0, 1)", x.sheet(4, 0, 1), BAD);
        Due.same("sheet(0, -1, 1)", x.sheet(0, -1, 1), BAD);
        Due.same("sheet(0, 2, 1)", x.sheet(0, 2, 1), BAD);
        Due.same("sheet(0, 0, 25)", x.sheet(0, 0, 25), BAD);
        Due.same("sheet(0, 0, MAX)", x.sheet(0, 0, MAX), BAD);
        Due.same("sheet(0, 0, -1)", x.sheet(0, 0, -1), SIZE);
        Due.same("sheet(0, 0, MIN)", x.sheet(0, 0, MIN), SIZE);
        Due.same("BAD is ahead of SIZE", x.sheet(4, 0, -1), BAD);
        Due.same("BAD is ahead of SIZE", x.sheet(0, 2, -1), BAD);
        Due.same("sheet(1, 1, 5)", x.sheet(1, 1, 5), 5);
        x.sheet(1, 0, -1);
        x.sheet(1, 0, 25);
        Due.same("a refused sheet changes nothing", x.item(1, 1, 4, 1), 1);
        Due.same("a refused sheet changes nothing", x.drop(1), 5);
    }

    private static void drop() {
        WindBoxes x = new WindBoxes();
        Due.same("drop(-1)", x.drop(-1), BAD);
        Due.same("drop(4)", x.drop(4), BAD);
        Due.same("drop(2)", x.drop(2), NULL);
        x.sheet(2, 1, 17);
        Due.same("drop(2)", x.drop(2), 17);
        Due.same("drop(2) again", x.drop(2), NULL);
        x.sheet(2, 1, 0);
        Due.same("a row of no items is a row", x.drop(2), 0);
        Due.same("and is gone", x.item(2, 1, 0, 0), NULL);
    }

    private static void item() {
        WindBoxes x = new WindBoxes();
        Due.same("item(-1, 0, 0, 0)", x.item(-1, 0, 0, 0), BAD);
        Due.same("item(4, 0, 0, 0)", x.item(4, 0, 0, 0), BAD);
        Due.same("item(0, -1, 0, 0)", x.item(0, -1, 0, 0), BAD);
        Due.same("item(0, 2, 0, 0)", x.item(0, 2, 0, 0), BAD);
        Due.same("NULL is ahead of INDEX", x.item(0, 0, -1, 0), NULL);
        x.sheet(0, 0, 3);
        Due.same("CAST is ahead of INDEX", x.item(0, 1, 3, 0), CAST);
        Due.same("item(0, 0, 3, 0)", x.item(0, 0, 3, 0), INDEX);
        Due.same("item(0, 0, -1, 0)", x.item(0, 0, -1, 0), INDEX);
        Due.same("item(0, 0, MIN, 0)", x.item(0, 0, MIN, 0), INDEX);
        Due.same("item(0, 0, MAX, 0)", x.item(0, 0, MAX, 0), INDEX);
        Due.same("item(0, 0, 2, MAX)", x.item(0, 0, 2, MAX), 1);
        x.sheet(0, 1, 3);
        Due.same("item(0, 0, 0, 0) of ints", x.item(0, 0, 0, 0), CAST);
        Due.same("item(0, 1, 0, MIN)", x.item(0, 1, 0, MIN), 1);
        shortsTakeTheLowestBits();
    }

    private static void shortsTakeTheLowestBits() {
        WindBoxes x = new WindBoxes();
        x.sheet(0, 0, 24);
        x.item(0, 0, 0, 65536 + 5);
        Due.same("65541 as a short is 5", x.source(0, 0, 0, 0), 5);
        x.item(0, 0, 1, 32767);
        Due.same("32767 as a short", x.source(0, 0, 0, 0), 32772);
        x.item(0, 0, 2, 32768);
        Due.same("32768 as a short is below 0", x.source(0, 0, 0, 0), NOT);
        x.item(0, 0, 2, -65536);
        Due.same("-65536 as a short is 0", x.source(0, 0, 0, 0), 32772);
        x.item(0, 0, 2, 1000000);
        Due.same("1000000 as a short is 16960", x.source(0, 0, 0, 0), 32772 + 16960);
        x.sheet(0, 0, 24);
        Due.same("a new row is all 0", x.source(0, 0, 0, 0), 0);
    }

    private static void sourceRefuses() {
        WindBoxes x = new WindBoxes();
        x.sheet(1, 1, 24);
        int[][] bad = {{-1, 0, 1, 1}, {3, 0, 1, 1}, {0, -1, 1, 1}, {0, 9, 1, 1},
            {0, 0, -1, 1}, {0, 0, 4, 1}, {0, 0, 1, -1}, {0, 0, 1, 2}};
        for (int[] b : bad) {
            String call = "source(" + b[0] + ", " + b[1] + ", " + b[2] + ", " + b[3] + ")";
            Due.same(call, x.source(b[0], b[1], b[2], b[3]), BAD);
        }
        Due.same("a sheet that holds nothing", x.source(0, 0, 0, 1), NULL);
        x.sheet(2, 1, 23);
        x.item(2, 1, 0, -1);
        Due.same("INDEX is ahead of NOT", x.source(0, 0, 2, 1), INDEX);
        Due.same("CAST is ahead of INDEX", x.source(0, 0, 2, 0), CAST);
        x.sheet(2, 1, 0);
        Due.same("no items", x.source(0, 0, 2, 1), INDEX);
        int[] wrong = {-1, 1000001, MIN, MAX};
        for (int v : wrong) {
            for (int i = 0; i < 24; i += 23) {
                x.item(1, 1, i, v);
                Due.same("source with item " + i + " " + v, x.source(0, 0, 1, 1), NOT);
                x.item(1, 1, i, 0);
            }
        }
    }

    private static void sourceTakes() {
        WindBoxes x = new WindBoxes();
        Due.steady(x, 1, 4, 1000000);
        x.item(3, 1, 7, -1);
        Due.same("refused", x.source(1, 8, 3, 1), NOT);
        x.item(3, 1, 7, 2);
        x.item(3, 1, 0, 3);
        x.drop(3);
        x.hours(1, 0);
        Due.same("rates are as they were when taken, the box too", x.grains(1, 4), 999000);
        Due.steady(x, 1, 2, 10);
        x.hours(1, 0);
        Due.same("grains stay where they are", x.grains(1, 4), 999000 - 999);
        Due.same("new ones come in the new box", x.grains(1, 2), 10);
        Due.same("other sources give nothing", x.total(0, 0) + x.total(2, 0), 0);
    }
}

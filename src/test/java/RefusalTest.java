import java.util.ArrayList;
import java.util.List;

/**
 * The document's sentences on refusals: each call with all joined edges of its arguments, on an object that
 * has all kinds of things in it. The model tells what is refused, and how; the object must be as it was.
 */
public final class RefusalTest {
    private static final int MIN = Integer.MIN_VALUE, MAX = Integer.MAX_VALUE;
    private static final int BAD = -1, NOT = -2, NULL = -11, CAST = -12, INDEX = -13, SIZE = -14;

    private static final int[] EDGES = {MIN, -101, -100, -1, 0, 1, 2, 3, 4, 5, 8, 9, 23, 24, 25, 50, 51, 99, 100, 101,
        1000, 1001, 1000000, 1000001, 1000000000, 1000000001, MAX};
    /** For calls of four numbers, which there would be too many of. */
    private static final int[] FEWER = {MIN, -1, 0, 1, 2, 3, 4, 8, 9, 23, 24, MAX};

    private static final String[] ONE = {"gives", "still", "drop", "mean", "cheapest"};
    private static final String[] TWO = {"wind", "door", "hours", "grains", "total", "kept", "rank", "rolling", "law",
        "price"};
    private static final String[] THREE = {"sheet", "hour"};
    private static final String[] FOUR = {"item", "source"};
    private static final String[] TOLD = {"lose", "watch"};

    private static final Calls FILL = fill();
    private static final Calls LOOK = look();
    private static final long[] SEEN = LOOK.askOf(filled());

    private final List<Object[]> refused = new ArrayList<>();
    private Model model = filledModel();
    private int done = 0;

    public static void main(String[] args) {
        order();
        new RefusalTest().grid();
        Due.end();
    }

    private static void order() {
        Due.sentence("of several the first that a call names: BAD, NULL, CAST, INDEX, SIZE, in this order");
        WindBoxes x = new WindBoxes();
        Due.same("sheet: BAD ahead of SIZE", x.sheet(-1, 0, -1), BAD);
        Due.same("sheet: SIZE", x.sheet(0, 0, -1), SIZE);
        Due.same("item: BAD ahead of NULL and INDEX", x.item(0, 2, -1, 0), BAD);
        Due.same("item: NULL ahead of INDEX", x.item(0, 1, -1, 0), NULL);
        x.sheet(0, 1, 2);
        x.item(0, 1, 0, -1);
        Due.same("item: CAST ahead of INDEX", x.item(0, 0, 2, 0), CAST);
        Due.same("item: INDEX", x.item(0, 1, 2, 0), INDEX);
        Due.same("source: BAD ahead of NULL", x.source(0, 9, 1, 0), BAD);
        Due.same("source: BAD ahead of CAST, INDEX and NOT", x.source(3, 0, 0, 0), BAD);
        Due.same("source: CAST ahead of INDEX and NOT", x.source(0, 0, 0, 0), CAST);
        Due.same("source: INDEX ahead of NOT", x.source(0, 0, 0, 1), INDEX);
        x.sheet(0, 1, 24);
        x.item(0, 1, 0, -1);
        Due.same("source: NOT", x.source(0, 0, 0, 1), NOT);
    }

    private void grid() {
        Due.sentence("What is refused changes nothing.");
        for (String name : ONE) {
            for (int a : EDGES) {
                meet(name, a);
            }
        }
        for (String name : TOLD) {
            for (int a : EDGES) {
                meet(name, a, true);
                meet(name, a, false);
            }
        }
        for (int a : EDGES) {
            for (int b : EDGES) {
                for (String name : TWO) {
                    meet(name, a, b);
                }
                for (int c : EDGES) {
                    for (String name : THREE) {
                        meet(name, a, b, c);
                    }
                }
            }
        }
        for (int a : FEWER) {
            for (int b : FEWER) {
                for (int c : FEWER) {
                    for (int d : FEWER) {
                        for (String name : FOUR) {
                            meet(name, a, b, c, d);
                        }
                    }
                }
            }
        }
        changesNothing();
        Due.holds("thousands of calls were refused: " + done, done > 10000);
    }

    private static boolean isRefusal(Object[] call, long answer) {
        boolean oftenBelow = call[0].equals("wind") || call[0].equals("gives") || call[0].equals("still");
        return oftenBelow ? answer == -1001 || answer == -1000000001L : answer < 0;
    }

    private void meet(Object... call) {
        long want = Calls.ask(model, call);
        if (!isRefusal(call, want)) {
            Due.same(Calls.told(call), Calls.ask(filled(), call), want);
            model = filledModel();
            return;
        }
        refused.add(call);
        if (refused.size() == 60) {
            changesNothing();
        }
    }

    /** All calls that were refused of late, on one object: it then answers as one that never heard them. */
    private void changesNothing() {
        WindBoxes x = filled();
        for (Object[] call : refused) {
            Due.same(Calls.told(call), Calls.ask(x, call), Calls.ask(model, call));
        }
        long[] now = LOOK.askOf(x);
        for (int i = 0; i < now.length; i++) {
            if (now[i] != SEEN[i]) {
                Due.same("behind " + Calls.told(refused.get(0)) + " .. : " + LOOK.told(i), now[i], SEEN[i]);
            }
        }
        Due.holds("no object is used for more than 512 calls", FILL.size() + refused.size() + LOOK.size() <= 512);
        done += refused.size();
        refused.clear();
    }

    private static WindBoxes filled() {
        WindBoxes x = new WindBoxes();
        FILL.askOf(x);
        return x;
    }

    private static Model filledModel() {
        Model m = new Model();
        FILL.askOf(m);
        return m;
    }

    /** Sheets: 24 shorts, one of them not as told; 24 ints; 9 ints; nothing. Doors with gaps, 101 hours, none. */
    private static Calls fill() {
        Calls calls = new Calls();
        for (int wall = 0; wall < 24; wall += 5) {
            calls.add("wind", wall, 90 - 7 * wall);
        }
        for (int source = 0; source < 3; source++) {
            calls.add("sheet", 1, 1, 24);
            for (int i = source; i < 24; i += 3) {
                calls.add("item", 1, 1, i, 1000 * (source + 1) + i);
            }
            calls.add("source", source, 3 * source + 1, 1, 1);
        }
        calls.add("sheet", 0, 0, 24).add("item", 0, 0, 3, 40000).add("sheet", 2, 1, 9).add("item", 2, 1, 8, 7);
        calls.add("door", 1, 4).add("door", 2, 7).add("watch", 1, true).add("watch", 2, true);
        calls.add("hours", 50, 3).add("lose", 1, true).add("lose", 0, true).add("hours", 4, 40).add("lose", 1, false);
        calls.add("hours", 47, 1).add("door", 3, 1).add("price", 1, 3).add("price", 2, 2).add("law", 2000, 2);
        return calls;
    }

    /** All that can be seen of an object, at last by calls that change it. */
    private static Calls look() {
        Calls calls = new Calls().add("change");
        for (int wall = 0; wall < 24; wall++) {
            calls.add("still", wall).add("gives", Math.min(wall, 8));
        }
        for (int door = 0; door < 4; door++) {
            calls.add("kept", door, 0).add("kept", door, 1).add("mean", door);
            calls.add("rank", door, 1).add("rank", door, 50).add("rolling", door, 1).add("rolling", door, 24);
            calls.add("cheapest", door);
            for (int i : new int[] {0, 46, 47, 50, 51, 99}) {
                calls.add("hour", door, i, 3).add("hour", door, i, i % 3);
            }
        }
        calls.add("hours", 30, 9);
        for (int source = 0; source < 3; source++) {
            for (int box = 0; box < 9; box++) {
                calls.add("grains", source, box);
            }
            for (int what = 0; what < 5; what++) {
                calls.add("total", source, what);
            }
        }
        for (int i = 0; i < 4; i++) {
            calls.add("hour", i, 0, 3).add("lose", i, false).add("watch", i, true);
            calls.add("price", Math.min(i, 2), i);
            calls.add("source", 0, 0, i, 0).add("source", 0, 0, i, 1);
            calls.add("item", i, 1, 8, 0).add("item", i, 1, 9, 0).add("drop", i);
        }
        return calls;
    }
}

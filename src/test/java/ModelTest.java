import java.util.Random;

/** Runs of 512 calls, drawn by fixed seeds, asked of the class and of the model: all answers are the same. */
public final class ModelTest {
    private static final int MOST_CALLS = 512;
    private static final int[] ROUGH = {0, 1, 7, 999, 1000, 32767, 32768, 65535, 65536, 999999, 1000000, 1000001, -1};

    private final Random random;
    private final WindBoxes x = new WindBoxes();
    private final Model m = new Model();
    private final long seed;
    /** How seldom an argument is drawn from outside its range. */
    private final int odds;
    private int calls = 0;

    private ModelTest(long seed) {
        this.seed = seed;
        random = new Random(seed);
        odds = seed % 3 == 0 ? 12 : 60;
    }

    public static void main(String[] args) {
        for (long seed = 1; seed <= 240; seed++) {
            new ModelTest(seed).run();
        }
        Due.end();
    }

    private void ask(Object... call) {
        if (calls < MOST_CALLS) {
            calls++;
            String when = "run " + seed + ", call " + calls + ": " + Calls.told(call);
            Due.same(when, Calls.ask(x, call), Calls.ask(m, call));
        }
    }

    /** Mostly within the range, often at its ends, and now and then just or far beyond them. */
    private int draw(int low, int high) {
        if (random.nextInt(odds) == 0) {
            int[] beyond = {low - 1, high + 1, Integer.MIN_VALUE, Integer.MAX_VALUE};
            return beyond[random.nextInt(beyond.length)];
        }
        if (random.nextInt(12) == 0) {
            return random.nextBoolean() ? low : high;
        }
        return low + random.nextInt(high - low + 1);
    }

    private void run() {
        if (random.nextInt(4) != 0) {
            for (int wall = 0; wall < 24; wall++) {
                ask("wind", wall, draw(-100, 100));
            }
        }
        for (int source = 0; source < 3; source++) {
            fill(source, source % 2);
        }
        while (calls < MOST_CALLS) {
            int kind = random.nextInt(28);
            if (kind == 27) {
                fill(random.nextInt(4), random.nextInt(2));
            } else if (kind < 9) {
                change(kind);
            } else {
                look(kind);
            }
        }
    }

    /** A row for a source of box after box; now and then with an item that is not as told. */
    private void fill(int sheet, int lane) {
        ask("sheet", sheet, lane, 24);
        int top = lane == 0 ? 32767 : random.nextBoolean() ? 1000000 : 3000;
        for (int i = 0; i < 24; i++) {
            ask("item", sheet, lane, i, random.nextInt(80) == 0 ? rough() : random.nextInt(top + 1));
        }
        ask("source", draw(0, 2), draw(0, 8), sheet, lane);
    }

    private int rough() {
        return ROUGH[random.nextInt(ROUGH.length)];
    }

    private void change(int kind) {
        boolean is = random.nextInt(3) == 0;
        switch (kind) {
            case 0:
                ask("wind", draw(0, 23), draw(-100, 100));
                break;
            case 1:
            case 2:
                int n = draw(1, random.nextInt(4) == 0 ? 50 : 6);
                ask("hours", n, random.nextBoolean() ? draw(0, 20) : draw(0, 1000));
                break;
            case 3:
                if (random.nextInt(4) == 0) {
                    ask("door", draw(0, 3), draw(0, 8));
                }
                break;
            case 4:
                ask("lose", draw(0, 3), is);
                break;
            case 5:
                ask("watch", draw(0, 3), !is);
                break;
            case 6:
                ask("law", limit(random.nextInt(4)), draw(0, random.nextBoolean() ? 5 : 100));
                break;
            case 7:
                ask("price", draw(0, 2), draw(0, random.nextBoolean() ? 3 : 1000));
                break;
            default:
                sheetCalls(draw(0, 3), draw(0, 1));
        }
    }

    /** Near what a door keeps, so that laws are kept here and broken there. */
    private int limit(int door) {
        long near = m.rank(door, 1 + random.nextInt(5));
        if (near <= 0 || random.nextInt(8) == 0) {
            return draw(0, 1000000000);
        }
        return (int) Math.min(near * random.nextInt(11) / 10 + random.nextInt(3) - 1, Integer.MAX_VALUE);
    }

    private void sheetCalls(int sheet, int lane) {
        int n = draw(0, 24);
        ask("item", sheet, lane, n, rough());
        ask("source", 1, 1, sheet, lane);
        if (random.nextInt(3) == 0) {
            ask("drop", sheet);
        }
        if (random.nextInt(3) == 0) {
            ask("sheet", sheet, lane, n);
        }
    }

    private void look(int kind) {
        int door = draw(0, 3);
        switch (kind) {
            case 9:
                ask("gives", draw(0, 8));
                break;
            case 10:
                ask("still", draw(0, 23));
                break;
            case 11:
                ask("change");
                break;
            case 12:
            case 13:
                ask("grains", draw(0, 2), draw(0, 8));
                break;
            case 14:
            case 15:
                ask("total", draw(0, 2), draw(0, 4));
                break;
            case 16:
            case 17:
                ask("hour", door, draw(0, random.nextBoolean() ? 3 : 99), draw(0, 3));
                break;
            case 18:
                ask("kept", door, draw(0, 1));
                break;
            case 19:
                ask("mean", door);
                break;
            case 20:
            case 21:
                ask("rank", door, draw(1, random.nextBoolean() ? 5 : 100));
                break;
            case 22:
            case 23:
                ask("rolling", door, draw(1, 24));
                break;
            default:
                ask("cheapest", draw(0, 3));
        }
    }
}

/**
 * An object whose box 0 gets hours of chosen shares, 0 to 999 each and in any order: of 1000 times as many
 * grains 999 of 1000 are washed out, and of less than 1000 none is laid down. All doors stand in box 0.
 */
final class Street {
    final WindBoxes x = new WindBoxes();
    private final int[] held = new int[3];
    private int time = 0;

    /** One hour with these shares of sources 0, 1, .. in box 0. */
    Street hour(int... shares) {
        int all = 0;
        for (int share : shares) {
            all += share;
        }
        if (all == 0) {
            return pass(1000, new int[3]);
        }
        for (int source = 0; source < shares.length; source++) {
            if (shares[source] == 0 && held[source] > 0) {
                throw new IllegalArgumentException("999 of 1000 never leave nothing");
            }
            int more = 1000 * shares[source] - held[source];
            Due.same("sheet", x.sheet(0, 1, 24), 24);
            Due.same("item", x.item(0, 1, time % 24, more), 1);
            Due.same("source", x.source(source, 0, 0, 1), more);
        }
        return pass(999, shares);
    }

    /** One hour that door 0 is told LOST in; the box is empty behind it. */
    Street gap() {
        Due.same("lose(0, true)", x.lose(0, true), 0);
        pass(1000, new int[3]);
        Due.same("lose(0, false)", x.lose(0, false), 1);
        return this;
    }

    /** Hours of source 0 alone; below 0 stands for a gap. */
    static Street of(int... numbers) {
        Street street = new Street();
        for (int number : numbers) {
            if (number < 0) {
                street.gap();
            } else {
                street.hour(number);
            }
        }
        return street;
    }

    private Street pass(int wet, int[] left) {
        time++;
        Due.same("hours(1, " + wet + ")", x.hours(1, wet), time);
        for (int source = 0; source < left.length; source++) {
            held[source] = left[source];
        }
        return this;
    }
}

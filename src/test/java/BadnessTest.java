/** The terms that promises 9 and 12 rest on: badness and cost. */
public final class BadnessTest {
    private static final int SIZE = 1073741823;
    private static final Check check = new Check();

    public static void main(String[] args) {
        tellsTheBadnessOfStretch();
        tellsTheBadnessOfShrink();
        tellsTheCost();
        check.end();
    }

    private static final long[][] BADNESSES = {
        {1, 0, 10000}, {SIZE, 0, 10000},
        {100, 100, 100}, {1, 1, 100}, {200, 100, 800}, {50, 100, 12}, {1, 1000, 0}, {1, SIZE, 0},
        {1290, 297, 8189}, {1291, 297, 10000}, {43, 297, 0}, {50, 297, 0}, {51, 297, 1},
        {7230584, 7230584, 100}, {7230585, 7230585, 100},
        {7230584, 1663496, 8189}, {7230584, 1663497, 8189},
        {7230585, 1663496, 10000}, {7230585, 1663497, 8189},
        {7230584, 1663200, 10000}, {7231590, 1663497, 10000}, {7231590, 1663794, 8189},
        {SIZE, SIZE, 100}, {SIZE, 1, 10000}, {SIZE, SIZE / 2, 800}};

    private static void tellsTheBadnessOfStretch() {
        for (long[] b : BADNESSES) {
            PageMaker x = new PageMaker();
            x.frame((int) b[0], 0, 0);
            x.box(0, 0, 0);
            x.glue(0, (int) b[1], 0, 0);
            x.penalty(-10000);
            check.due("badness of " + b[0] + " by the stretch " + b[1], x.page(0, 6), b[2]);
        }
    }

    private static void tellsTheBadnessOfShrink() {
        for (long[] b : BADNESSES) {
            PageMaker x = new PageMaker();
            x.frame(0, 0, 0);
            x.box(0, 0, 0);
            x.penalty(10000);
            x.glue(0, SIZE, 3, (int) b[1]);
            x.kern((int) b[0]);
            x.penalty(-10000);
            check.due("badness of " + b[0] + " by the shrink " + b[1], x.page(0, 6),
                    b[0] > b[1] ? PageMaker.AWFUL : b[2]);
        }
    }

    private static void dueCost(int excess, int stretch, int p, long want) {
        PageMaker x = new PageMaker();
        x.frame(excess, 0, 0);
        x.box(0, 0, 0);
        x.penalty(10000);
        x.glue(0, stretch, 0, 0);
        x.penalty(p);
        String call = "cost of " + excess + " by " + stretch + " with penalty " + p;
        check.due(call, x.pages() == 0 ? x.open(8) : x.page(0, 2), want);
    }

    private static void tellsTheCost() {
        dueCost(100, 100, 0, 100);
        dueCost(100, 100, 50, 150);
        dueCost(100, 100, 9999, 10099);
        dueCost(100, 100, -9999, -9899);
        dueCost(100, 100, -10000, -10000);
        dueCost(100, 0, 0, 100000);
        dueCost(100, 0, 9999, 100000);
        dueCost(100, 0, -9999, 100000);
        dueCost(100, 0, -10000, -10000);
        dueCost(1290, 297, 5, 8194);
        dueCost(0, 0, 5, 5);
    }
}

/** Promise 4. */
public final class GlueTest {
    private static final int SIZE = 1073741823;
    private static final Check check = new Check();

    public static void main(String[] args) {
        addsWidthStretchAndShrink();
        isABreakBehindABoxAlone();
        endsAPage();
        isDroppedBeforeTheFirstBox();
        takesTheOutermostSizes();
        refusesWhatIsNoGlue();
        check.end();
    }

    private static void addsWidthStretchAndShrink() {
        PageMaker x = new PageMaker();
        x.frame(1000, 0, 9);
        x.box(0, 10, 4);
        for (int order = 0; order < 4; order++) {
            x.glue(2, 10 + order, order, 5);
            x.glue(-1, 100, order, 0);
        }
        check.due("length with the depth", x.open(1), 18);
        check.due("depth", x.open(2), 0);
        for (int order = 0; order < 4; order++) {
            check.due("stretch of order " + order, x.open(3 + order), 110 + order);
        }
        check.due("shrink", x.open(9), 20);
    }

    private static void isABreakBehindABoxAlone() {
        PageMaker x = new PageMaker();
        x.frame(1000, 0, 0);
        x.box(0, 10, 0);
        x.penalty(10000);
        x.glue(0, 1, 0, 0);
        check.due("no break behind a penalty", x.open(7), PageMaker.NONE);
        x.glue(0, 1, 0, 0);
        check.due("no break behind glue", x.open(7), PageMaker.NONE);
        check.due("no break yet costs", x.open(8), PageMaker.AWFUL);
        x.box(0, 10, 0);
        check.due("no break behind a box without glue", x.open(7), PageMaker.NONE);
        x.glue(0, 1, 0, 0);
        check.due("a break behind a box", x.open(7), 5);
        PageMaker y = new PageMaker();
        y.frame(10, 0, 0);
        y.box(0, 10, 0);
        y.glue(500, 0, 0, 0);
        check.due("a break before the glue, that costs nothing", y.open(8), 0);
    }

    private static void endsAPage() {
        PageMaker x = new PageMaker();
        x.frame(20, 0, 0);
        x.box(0, 10, 0);
        check.due("glue on the page", x.glue(1, 0, 0, 0), 0);
        x.box(0, 10, 0);
        check.due("glue past the page", x.glue(1, 0, 0, 0), 1);
        check.due("its break", x.page(0, 1), 1);
        check.due("the item that ended it", x.page(0, 7), 3);
        check.due("the next page's break", x.open(7), 3);
        check.due("glue behind glue", x.glue(100, 0, 0, 0), 1);
    }

    private static void isDroppedBeforeTheFirstBox() {
        PageMaker x = new PageMaker();
        x.frame(20, 0, 0);
        x.glue(7, 7, 3, 7);
        x.box(0, 10, 0);
        check.due("length without dropped glue", x.open(1), 10);
        check.due("stretch without dropped glue", x.open(6), 0);
        check.due("shrink without dropped glue", x.open(9), 0);
        check.due("dropped glue is no break", x.open(7), PageMaker.NONE);
    }

    private static void takesTheOutermostSizes() {
        PageMaker x = new PageMaker();
        x.frame(SIZE, 0, 0);
        x.box(0, 0, 0);
        for (int i = 0; i < 4; i++) {
            x.glue(-SIZE, SIZE, 3, SIZE);
        }
        check.due("length of great glue", x.open(1), -4L * SIZE);
        check.due("stretch of great glue", x.open(6), 4L * SIZE);
        check.due("shrink of great glue", x.open(9), 4L * SIZE);
        x.glue(SIZE, 0, 0, 0);
        check.due("length with the widest glue", x.open(1), -3L * SIZE);
    }

    private static void refusesWhatIsNoGlue() {
        PageMaker x = new PageMaker();
        x.box(0, 1, 1);
        int[][] wrong = {
            {SIZE + 1, 0, 0, 0}, {-SIZE - 1, 0, 0, 0}, {Integer.MIN_VALUE, 0, 0, 0}, {Integer.MAX_VALUE, 0, 0, 0},
            {0, -1, 0, 0}, {0, SIZE + 1, 0, 0}, {0, Integer.MIN_VALUE, 0, 0}, {0, Integer.MAX_VALUE, 0, 0},
            {0, 0, -1, 0}, {0, 0, 4, 0}, {0, 0, Integer.MIN_VALUE, 0}, {0, 0, Integer.MAX_VALUE, 0},
            {0, 0, 0, -1}, {0, 0, 0, SIZE + 1}, {0, 0, 0, Integer.MIN_VALUE}, {0, 0, 0, Integer.MAX_VALUE}};
        for (int[] w : wrong) {
            check.dueThrow(Check.ARGUMENT, x, "glue(" + w[0] + ", " + w[1] + ", " + w[2] + ", " + w[3] + ")",
                    () -> x.glue(w[0], w[1], w[2], w[3]));
        }
    }
}

/** Terms: the badness at a break. */
public final class BadnessTest {
    private static final int SIZE = Check.SIZE;
    private static final Check check = new Check();

    public static void main(String[] args) {
        is0WithStretchOfAnOrderAbove0();
        countsNoOrderWithoutStretch();
        isThatOfTheStretchOfOrder0();
        is0WithoutExcess();
        isAwfulIfMoreThanTheShrinkIsMissing();
        isThatOfTheShrink();
        isByTheFrameOfThePage();
        followsTheFormulaForStretch();
        followsTheFormulaForShrink();
        followsTheFormulaForEveryR();
        followsTheFormulaBeyondAnInt();
        check.end();
    }

    /** {t, s, the badness of t by s} */
    private static final int[][] BADNESSES = {
        // "10000 if s is 0"
        {1, 0, 10000}, {7230584, 0, 10000}, {7230585, 0, 10000}, {SIZE, 0, 10000},
        // "r, rounded down: 297 * t / s"
        {1, 1, 100}, {100, 100, 100}, {200, 100, 800}, {50, 100, 12}, {1, 1000, 0}, {1, SIZE, 0},
        {297, 298, 99}, {298, 297, 101}, {594, 595, 99},
        // "if r is above 1290, 10000"
        {1289, 297, 8170}, {1290, 297, 8189}, {1291, 297, 10000}, {2581, 594, 8189}, {2582, 594, 10000},
        // "(r * r * r + 131072) / 262144, rounded down"
        {0, 1, 0}, {50, 297, 0}, {51, 297, 1}, {73, 297, 1}, {74, 297, 2}, {1, 5, 1}, {1, 6, 0},
        // "if t is not above 7230584"
        {7230584, 7230584, 100}, {7230585, 7230585, 100},
        {7230584, 1663496, 8189}, {7230584, 1663497, 8189}, {7230584, 1663200, 10000},
        // "otherwise t / (s / 297) if s is not below 1663497 .., or t"
        {7230585, 1663496, 10000}, {7230585, 1663497, 8189}, {7230585, 1, 10000}, {SIZE, 1663496, 10000},
        // "s / 297 is rounded down first"
        {7231590, 1663497, 10000}, {7231590, 1663793, 10000}, {7231590, 1663794, 8189},
        {7231581, 1663793, 10000}, {7230890, 1663793, 8189}, {7230891, 1663793, 10000},
        {SIZE, SIZE, 100}, {SIZE, 1, 10000}, {SIZE, SIZE / 2, 800}, {SIZE - 1, SIZE, 100}};

    /** What ends a page by a forcing penalty has its badness still. */
    private static long badnessWithStretch(int excess, int order, int stretch) {
        PageMaker x = new PageMaker();
        x.frame(excess, 0, 0);
        x.box(0, 0, 0);
        x.penalty(10000);
        x.glue(0, stretch, order, 0);
        x.penalty(-10000);
        return x.page(0, 6);
    }

    private static long badnessWithShrink(int missing, int shrink) {
        PageMaker x = new PageMaker();
        x.frame(0, 0, 0);
        x.box(0, 0, 0);
        x.penalty(10000);
        x.glue(0, SIZE, 3, shrink);
        x.kern(missing);
        x.penalty(-10000);
        return x.page(0, 6);
    }

    /** "if e is above 0: 0 if there is stretch of an order above 0" */
    private static void is0WithStretchOfAnOrderAbove0() {
        for (int order = 1; order < 4; order++) {
            check.due("badness of 1 by stretch 1 of order " + order, badnessWithStretch(1, order, 1), 0);
            check.due("badness of the greatest excess by it", badnessWithStretch(SIZE, order, 1), 0);
        }
        check.due("badness of 1 by stretch 1 of order 0", badnessWithStretch(1, 0, 1), 100);
    }

    private static void countsNoOrderWithoutStretch() {
        for (int order = 0; order < 4; order++) {
            check.due("badness of 1 by stretch 0 of order " + order, badnessWithStretch(1, order, 0), 10000);
        }
        PageMaker x = new PageMaker();
        x.frame(10, 0, 0);
        x.box(0, 0, 0);
        x.penalty(10000);
        x.glue(0, 10, 0, 0);
        x.glue(0, 0, 1, 0);
        x.glue(0, 0, 2, 0);
        x.glue(0, 0, 3, 0);
        x.penalty(0);
        check.due("cost with stretch 0 of the orders above 0", x.open(8), 100);
    }

    /** "else that of e by the stretch of order 0" */
    private static void isThatOfTheStretchOfOrder0() {
        PageMaker x = new PageMaker();
        x.frame(10, 0, 0);
        x.box(0, 0, 0);
        x.penalty(10000);
        x.glue(0, 4, 0, 500);
        x.glue(0, 6, 0, 500);
        x.penalty(0);
        check.due("cost with stretch 4 and 6", x.open(8), 100);
    }

    /** "if e is 0, 0" */
    private static void is0WithoutExcess() {
        check.due("badness of 0 without stretch", badnessWithStretch(0, 0, 0), 0);
        check.due("badness of 0 without shrink", badnessWithShrink(0, 0), 0);
        check.due("badness of 0 with both", badnessWithShrink(0, 5), 0);
    }

    /** "AWFUL, 1073741823, if what is missing is more than the shrink" */
    private static void isAwfulIfMoreThanTheShrinkIsMissing() {
        check.due("1 missing by shrink 0", badnessWithShrink(1, 0), 1073741823);
        check.due("1 missing by shrink 1", badnessWithShrink(1, 1), 100);
        check.due("2 missing by shrink 1", badnessWithShrink(2, 1), 1073741823);
        check.due("99 missing by shrink 100", badnessWithShrink(99, 100), 97);
        check.due("100 missing by shrink 100", badnessWithShrink(100, 100), 100);
        check.due("101 missing by shrink 100", badnessWithShrink(101, 100), 1073741823);
        check.due("the greatest size missing by less", badnessWithShrink(SIZE, SIZE - 1), 1073741823);
        check.due("the greatest size missing by itself", badnessWithShrink(SIZE, SIZE), 100);
    }

    /** "else that of what is missing by the shrink" */
    private static void isThatOfTheShrink() {
        PageMaker x = new PageMaker();
        x.frame(10, 0, 0);
        x.box(0, 20, 0);
        x.penalty(10000);
        x.glue(0, 500, 0, 4);
        x.glue(0, 500, 3, 6);
        x.penalty(0);
        check.due("cost with shrink 4 and 6", x.open(8), 100);
    }

    /** "e being the frame's height less the length of the list up to it" */
    private static void isByTheFrameOfThePage() {
        PageMaker x = new PageMaker();
        x.frame(110, 10, 0);
        x.box(0, 4, 0);
        x.frame(500, 0, 0);
        x.penalty(10000);
        x.glue(0, 100, 0, 0);
        x.penalty(0);
        check.due("cost in the frame of the page", x.open(8), 100);
    }

    private static void followsTheFormulaForStretch() {
        for (int[] b : BADNESSES) {
            check.due("badness of " + b[0] + " by the stretch " + b[1], badnessWithStretch(b[0], 0, b[1]), b[2]);
        }
    }

    private static void followsTheFormulaForShrink() {
        for (int[] b : BADNESSES) {
            long want = b[0] > b[1] ? PageMaker.AWFUL : b[2];
            check.due("badness of " + b[0] + " by the shrink " + b[1], badnessWithShrink(b[0], b[1]), want);
        }
    }

    /** By a stretch of 297 r is t. */
    private static void followsTheFormulaForEveryR() {
        for (int r = 1; r <= 1300; r++) {
            long want = r > 1290 ? 10000 : ((long) r * r * r + 131072) / 262144;
            check.due("badness of " + r + " by 297", badnessWithStretch(r, 0, 297), want);
        }
    }

    private static void followsTheFormulaBeyondAnInt() {
        PageMaker x = new PageMaker();
        x.frame(SIZE, 0, 0);
        x.box(0, 0, 0);
        x.penalty(10000);
        for (int i = 0; i < 7; i++) {
            x.glue(-SIZE, SIZE / 2, 0, 0);
        }
        x.penalty(0);
        // 8 sizes by 3.5 sizes: r is 678.
        check.due("cost of an excess beyond an int", x.open(8), 1189);
        PageMaker y = new PageMaker();
        y.frame(0, 0, 0);
        y.box(0, SIZE, 0);
        y.penalty(10000);
        for (int i = 0; i < 7; i++) {
            y.glue(SIZE, 0, 0, SIZE);
        }
        check.due("8 sizes missing by 7", y.penalty(0), 1);
        check.due("its badness", y.page(0, 6), PageMaker.AWFUL);
        PageMaker z = new PageMaker();
        z.frame(SIZE, 0, 0);
        z.box(0, SIZE, 0);
        z.penalty(10000);
        for (int i = 0; i < 7; i++) {
            z.glue(SIZE, 0, 0, SIZE);
        }
        check.due("7 sizes missing by 7", z.penalty(0), 0);
        check.due("its cost", z.open(8), 100);
    }
}

/** Terms: the length, the depth, the stretch and the shrink of a list. */
public final class LengthTest {
    private static final int SIZE = Check.SIZE;
    private static final Check check = new Check();

    public static void main(String[] args) {
        addsTheDepthBeforeAndTheHeightOfABox();
        cutsADepthAboveTheGreatest();
        cutsNoDepthBelow0();
        addsDepthAndWidthOfGlue();
        addsDepthAndWidthOfAKern();
        addsNothingForAPenalty();
        sumsTheStretchOfEachOrder();
        sumsTheShrink();
        goesBeyondAnInt();
        goesBelow0();
        check.end();
    }

    private static PageMaker inFrame(int top, int greatest) {
        PageMaker x = new PageMaker();
        x.frame(1000, top, greatest);
        return x;
    }

    private static void dueLengthAndDepth(PageMaker x, long length, long depth) {
        check.due("length with " + x.items() + " items", x.open(1), length);
        check.due("depth with " + x.items() + " items", x.open(2), depth);
    }

    /** "for a box the depth there is and its height are added to the length, and its depth is the depth then" */
    private static void addsTheDepthBeforeAndTheHeightOfABox() {
        PageMaker x = inFrame(0, 9);
        x.box(0, 10, 3);
        dueLengthAndDepth(x, 10, 3);
        x.box(0, 20, 5);
        dueLengthAndDepth(x, 33, 5);
        x.box(0, 0, 0);
        dueLengthAndDepth(x, 38, 0);
        x.box(0, 1, 1);
        dueLengthAndDepth(x, 39, 1);
    }

    /** "if that is above the greatest depth, what is above is added to the length, and the depth is that" */
    private static void cutsADepthAboveTheGreatest() {
        for (int more = -1; more <= 1; more++) {
            PageMaker x = inFrame(0, 6);
            x.box(0, 10, 6 + more);
            dueLengthAndDepth(x, more > 0 ? 11 : 10, more < 0 ? 5 : 6);
            x.box(0, 10, 6 + more);
            dueLengthAndDepth(x, 26 + more + (more > 0 ? 1 : 0), more < 0 ? 5 : 6);
        }
        PageMaker y = inFrame(0, 0);
        y.box(0, 10, 7);
        dueLengthAndDepth(y, 17, 0);
    }

    private static void cutsNoDepthBelow0() {
        PageMaker x = inFrame(0, 0);
        x.box(0, 10, -7);
        dueLengthAndDepth(x, 10, -7);
        x.box(0, 10, -1);
        dueLengthAndDepth(x, 13, -1);
        x.glue(5, 0, 0, 0);
        dueLengthAndDepth(x, 17, 0);
    }

    /** "for glue and kerns the depth and the width are added to the length, and the depth is 0" */
    private static void addsDepthAndWidthOfGlue() {
        PageMaker x = inFrame(0, 9);
        x.box(0, 10, 4);
        x.glue(2, 0, 0, 0);
        dueLengthAndDepth(x, 16, 0);
        x.glue(-3, 0, 0, 0);
        dueLengthAndDepth(x, 13, 0);
        x.glue(0, 9, 0, 9);
        dueLengthAndDepth(x, 13, 0);
    }

    private static void addsDepthAndWidthOfAKern() {
        PageMaker x = inFrame(0, 9);
        x.box(0, 10, 4);
        x.kern(5);
        dueLengthAndDepth(x, 19, 0);
        x.kern(-20);
        dueLengthAndDepth(x, -1, 0);
        x.box(0, 1, 9);
        x.kern(0);
        dueLengthAndDepth(x, 9, 0);
    }

    private static void addsNothingForAPenalty() {
        PageMaker x = inFrame(0, 9);
        x.box(0, 10, 4);
        x.penalty(9999);
        dueLengthAndDepth(x, 10, 4);
        x.penalty(100000);
        dueLengthAndDepth(x, 10, 4);
        x.box(0, 10, 0);
        dueLengthAndDepth(x, 24, 0);
    }

    /** "Its STRETCH of an order and its SHRINK are the sums of its glue" */
    private static void sumsTheStretchOfEachOrder() {
        for (int order = 0; order < 4; order++) {
            PageMaker x = inFrame(0, 0);
            x.glue(0, 50, order, 50);
            x.box(0, 10, 0);
            x.glue(0, 7, order, 0);
            x.kern(3);
            x.glue(0, 0, order, 0);
            x.glue(0, 5, order, 0);
            for (int other = 0; other < 4; other++) {
                check.due("stretch of order " + other, x.open(3 + other), other == order ? 12 : 0);
            }
            check.due("shrink", x.open(9), 0);
        }
    }

    private static void sumsTheShrink() {
        PageMaker x = inFrame(0, 0);
        x.box(0, 10, 0);
        for (int order = 0; order < 4; order++) {
            x.glue(0, 0, order, 1 << order);
        }
        check.dueOpen(x, 0, 10, 0, 0, 0, 0, 0, 1, 100000, 15);
    }

    private static void goesBeyondAnInt() {
        PageMaker x = new PageMaker();
        x.frame(SIZE, 0, SIZE);
        x.box(0, SIZE, SIZE);
        x.box(0, SIZE, SIZE);
        dueLengthAndDepth(x, 3L * SIZE, SIZE);
        x.penalty(10000);
        for (int order = 0; order < 4; order++) {
            for (int i = 0; i < 3; i++) {
                x.glue(SIZE, SIZE, order, SIZE);
            }
        }
        check.due("length", x.open(1), 16L * SIZE);
        for (int order = 0; order < 4; order++) {
            check.due("stretch of order " + order, x.open(3 + order), 3L * SIZE);
        }
        check.due("shrink", x.open(9), 12L * SIZE);
        for (int i = 0; i < 3; i++) {
            x.kern(SIZE);
        }
        check.due("length with kerns", x.open(1), 19L * SIZE);
        PageMaker y = new PageMaker();
        y.frame(0, 0, 0);
        y.box(0, SIZE, SIZE);
        dueLengthAndDepth(y, 2L * SIZE, 0);
    }

    private static void goesBelow0() {
        PageMaker x = new PageMaker();
        x.frame(0, -SIZE, 0);
        x.box(0, -SIZE, -SIZE);
        dueLengthAndDepth(x, -SIZE, -SIZE);
        x.box(0, -SIZE, -SIZE);
        dueLengthAndDepth(x, -3L * SIZE, -SIZE);
        x.glue(-SIZE, 0, 0, 0);
        dueLengthAndDepth(x, -5L * SIZE, 0);
        x.kern(-SIZE);
        dueLengthAndDepth(x, -6L * SIZE, 0);
    }
}

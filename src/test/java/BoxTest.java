/** Promise 3. */
public final class BoxTest {
    private static final int SIZE = 1073741823;
    private static final Check check = new Check();

    public static void main(String[] args) {
        addsHeightAndDepth();
        putsTopGlueAboveTheFirstBoxAlone();
        answersHowManyPagesHaveEnded();
        takesTheOutermostSizes();
        refusesWhatIsNoBox();
        refusesMoreThan2000Items();
        check.end();
    }

    private static void addsHeightAndDepth() {
        PageMaker x = new PageMaker();
        x.frame(1000, 0, 3);
        x.box(0, 10, 3);
        check.due("length", x.open(1), 10);
        check.due("depth as great as may be", x.open(2), 3);
        x.box(0, 10, 5);
        check.due("length with the depth before and what is above the greatest depth", x.open(1), 25);
        check.due("depth cut", x.open(2), 3);
        x.box(0, -4, -6);
        check.due("length with a negative height", x.open(1), 24);
        check.due("negative depth", x.open(2), -6);
        x.box(0, 0, 0);
        check.due("length with the negative depth", x.open(1), 18);
    }

    private static void putsTopGlueAboveTheFirstBoxAlone() {
        PageMaker x = new PageMaker();
        x.frame(1000, 30, 0);
        x.box(0, 12, 0);
        check.due("length below the top", x.open(1), 30);
        x.box(0, 12, 0);
        check.due("length with a second box", x.open(1), 42);
        PageMaker y = new PageMaker();
        y.frame(1000, 30, 0);
        y.box(0, 31, 0);
        check.due("length of a box above the top", y.open(1), 31);
        PageMaker z = new PageMaker();
        z.frame(1000, 30, 0);
        z.box(0, -12, 0);
        check.due("length of a negative box", z.open(1), 30);
    }

    private static void answersHowManyPagesHaveEnded() {
        PageMaker x = new PageMaker();
        check.due("box", x.box(1, 1, 1), 0);
        x.penalty(-10000);
        check.due("box on the second page", x.box(1, 1, 1), 1);
        x.penalty(-10000);
        check.due("box on the third page", x.box(1, 1, 1), 2);
        check.due("items", x.items(), 5);
    }

    private static void takesTheOutermostSizes() {
        PageMaker x = new PageMaker();
        x.frame(0, 0, 0);
        x.box(Integer.MAX_VALUE, SIZE, SIZE);
        check.due("length of the greatest box", x.open(1), 2147483646L);
        x.box(0, SIZE, -SIZE);
        check.due("length of two great boxes", x.open(1), 3221225469L);
        check.due("the least depth", x.open(2), -SIZE);
        x.box(0, -SIZE, SIZE);
        check.due("length of three great boxes", x.open(1), 2147483646L);
    }

    private static void refusesWhatIsNoBox() {
        PageMaker x = new PageMaker();
        x.box(0, 1, 1);
        int[][] wrong = {
            {-1, 0, 0}, {Integer.MIN_VALUE, 0, 0},
            {0, SIZE + 1, 0}, {0, -SIZE - 1, 0}, {0, Integer.MIN_VALUE, 0}, {0, Integer.MAX_VALUE, 0},
            {0, 0, SIZE + 1}, {0, 0, -SIZE - 1}, {0, 0, Integer.MIN_VALUE}, {0, 0, Integer.MAX_VALUE}};
        for (int[] w : wrong) {
            check.dueThrow(Check.ARGUMENT, x, "box(" + w[0] + ", " + w[1] + ", " + w[2] + ")",
                    () -> x.box(w[0], w[1], w[2]));
        }
    }

    private static void refusesMoreThan2000Items() {
        PageMaker x = new PageMaker();
        for (int i = 0; i < 2000; i++) {
            check.due("box " + i, x.box(i, 1, 0), 0);
        }
        check.due("items", x.items(), 2000);
        check.dueThrow(Check.UNSUPPORTED, x, "box 2000", () -> x.box(0, 0, 0));
        check.dueThrow(Check.UNSUPPORTED, x, "glue 2000", () -> x.glue(0, 0, 0, 0));
        check.dueThrow(Check.UNSUPPORTED, x, "kern 2000", () -> x.kern(0));
        check.dueThrow(Check.UNSUPPORTED, x, "penalty 2000", () -> x.penalty(0));
        check.dueThrow(Check.ARGUMENT, x, "wrong box 2000", () -> x.box(-1, 0, 0));
        check.dueThrow(Check.ARGUMENT, x, "wrong glue 2000", () -> x.glue(0, 0, 4, 0));
        check.dueThrow(Check.ARGUMENT, x, "wrong kern 2000", () -> x.kern(SIZE + 1));
        check.dueThrow(Check.ARGUMENT, x, "wrong penalty 2000", () -> x.penalty(100001));
    }
}

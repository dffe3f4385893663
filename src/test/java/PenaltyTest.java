/** Promise 6. */
public final class PenaltyTest {
    private static final Check check = new Check();

    public static void main(String[] args) {
        isABreakBelow10000();
        endsThePageAtMinus10000();
        forcesNoBreakThatIsAwful();
        addsNothing();
        isDroppedBeforeTheFirstBox();
        takesTheOutermostPenalties();
        refusesWhatIsNoPenalty();
        check.end();
    }

    private static PageMaker withFullPage() {
        PageMaker x = new PageMaker();
        x.frame(10, 0, 0);
        x.box(0, 10, 0);
        return x;
    }

    private static void isABreakBelow10000() {
        PageMaker x = withFullPage();
        x.penalty(100000);
        x.penalty(10000);
        check.due("no break", x.open(7), PageMaker.NONE);
        check.due("a penalty on the page", x.penalty(9999), 0);
        check.due("a break", x.open(7), 3);
        check.due("its cost", x.open(8), 9999);
        check.due("the last penalty that forces nothing", x.penalty(-9999), 0);
        check.due("its cost", x.open(8), -9999);
    }

    private static void endsThePageAtMinus10000() {
        PageMaker x = new PageMaker();
        x.frame(100, 0, 0);
        x.box(0, 10, 0);
        x.penalty(0);
        check.due("a forcing penalty", x.penalty(-10000), 1);
        check.due("the break", x.page(0, 1), 2);
        check.due("its cost whatever the badness", x.page(0, 2), -10000);
        check.due("its badness", x.page(0, 6), 10000);
        check.due("a forcing penalty with no box", x.penalty(-10000), 1);
        x.box(0, 10, 0);
        check.due("a stronger penalty", x.penalty(-10001), 2);
        check.due("its cost", x.page(1, 2), -10001);
    }

    private static void forcesNoBreakThatIsAwful() {
        PageMaker x = withFullPage();
        x.penalty(77);
        x.box(0, 1, 0);
        check.due("a forcing penalty past the page", x.penalty(-10000), 2);
        check.due("the first page's break", x.page(0, 1), 1);
        check.due("its cost", x.page(0, 2), 77);
        check.due("the item that ended it", x.page(0, 7), 3);
        check.due("the second page's break", x.page(1, 1), 3);
        check.due("its cost", x.page(1, 2), -10000);
        check.due("the item that ended it", x.page(1, 7), 3);
        PageMaker y = new PageMaker();
        y.frame(9, 0, 0);
        y.box(0, 10, 0);
        check.due("a forcing penalty past the page alone", y.penalty(-10000), 1);
        check.due("its cost", y.page(0, 2), PageMaker.AWFUL);
    }

    private static void addsNothing() {
        PageMaker x = new PageMaker();
        x.frame(100, 0, 5);
        x.box(0, 10, 5);
        x.penalty(10);
        check.due("length", x.open(1), 10);
        check.due("depth", x.open(2), 5);
    }

    private static void isDroppedBeforeTheFirstBox() {
        PageMaker x = new PageMaker();
        check.due("a penalty before any box", x.penalty(-10000), 0);
        check.due("a penalty before any box", x.penalty(0), 0);
        x.box(0, 0, 0);
        check.due("no break", x.open(7), PageMaker.NONE);
        check.due("the first box", x.open(0), 2);
    }

    private static void takesTheOutermostPenalties() {
        PageMaker x = withFullPage();
        check.due("the greatest penalty", x.penalty(100000), 0);
        check.due("the least penalty", x.penalty(-100000), 1);
        check.due("its cost", x.page(0, 2), -100000);
    }

    private static void refusesWhatIsNoPenalty() {
        PageMaker x = withFullPage();
        int[] wrong = {100001, -100001, Integer.MIN_VALUE, Integer.MAX_VALUE};
        for (int w : wrong) {
            check.dueThrow(Check.ARGUMENT, x, "penalty(" + w + ")", () -> x.penalty(w));
        }
    }
}

/** Terms: which break ends a page, which one is the best, and how the next page goes on. */
public final class EndTest {
    private static final Check check = new Check();

    public static void main(String[] args) {
        endsAtTheFirstAwfulCost();
        endsAtAnyKindOfAwfulBreak();
        endsByNoOtherCost();
        endsByNoLengthWithoutABreak();
        endsAtPenaltiesOfMinus10000OrLess();
        endsAtItselfIfItIsAlone();
        endsAtTheLeastCost();
        endsAtTheLastOfSeveralLeastCosts();
        endsAtItselfIfItIsForced();
        endsBeforeAForcedBreakThatIsAwful();
        beginsTheNextPageAtTheItemOfTheBestBreak();
        looksAtTheNextPagesItemsAtOnce();
        looksAgainAtABreakThatWasNotTheBest();
        looksAgainAtAKernThatEndedThePage();
        beginsEachPageWithNoBestBreak();
        endsManyPagesInOneCall();
        check.end();
    }

    /** Whatever height comes behind its box is too much. */
    private static PageMaker withFullPage() {
        PageMaker x = new PageMaker();
        x.frame(10, 0, 0);
        x.box(0, 10, 0);
        return x;
    }

    /** A page of height 100 with 10 in it on which each break costs its penalty. */
    private static PageMaker withStretch() {
        PageMaker x = new PageMaker();
        x.frame(100, 0, 0);
        x.box(0, 10, 0);
        x.penalty(10000);
        x.glue(0, 1, 1, 0);
        return x;
    }

    /** "The first one of which the cost is AWFUL" */
    private static void endsAtTheFirstAwfulCost() {
        PageMaker x = withFullPage();
        check.due("a break on the page", x.penalty(7), 0);
        check.due("a box past the page", x.box(0, 1, 0), 0);
        check.due("the first break past it", x.penalty(3), 1);
        check.duePage(x, 0, 0, 1, 7, 0, 0, 0, 0, 3);
        check.due("the second break, on the next page", x.penalty(2), 1);
        check.due("what ended the first page", x.page(0, 7), 3);
    }

    private static void endsAtAnyKindOfAwfulBreak() {
        PageMaker x = withFullPage();
        x.penalty(7);
        x.box(0, 1, 0);
        check.due("glue past the page", x.glue(0, 0, 0, 0), 1);
        check.duePage(x, 0, 0, 1, 7, 0, 0, 0, 0, 3);
        PageMaker y = withFullPage();
        y.penalty(7);
        y.box(0, 1, 0);
        check.due("a kern past the page", y.kern(0), 0);
        check.due("glue behind it", y.glue(0, 0, 0, 0), 1);
        check.duePage(y, 0, 0, 1, 7, 0, 0, 0, 0, 3);
        PageMaker z = withFullPage();
        z.penalty(7);
        z.box(0, 1, 0);
        check.due("penalty 9999 past the page", z.penalty(9999), 1);
        check.duePage(z, 0, 0, 1, 7, 0, 0, 0, 0, 3);
    }

    private static void endsByNoOtherCost() {
        PageMaker x = new PageMaker();
        x.frame(100, 0, 0);
        x.box(0, 10, 0);
        check.due("a break that costs 100000", x.penalty(9999), 0);
        check.due("its cost", x.open(8), 100000);
        x.glue(100, 0, 0, 10);
        check.due("a break for which all shrink is needed", x.penalty(0), 0);
        check.due("its cost", x.open(8), 100);
    }

    /** What is past the height at no break may come back below it. */
    private static void endsByNoLengthWithoutABreak() {
        PageMaker x = withFullPage();
        check.due("a kern past the page", x.kern(50), 0);
        check.due("a box past the page", x.box(0, 50, 0), 0);
        check.due("a penalty that is no break", x.penalty(10000), 0);
        check.due("glue that is no break", x.glue(50, 0, 0, 0), 0);
        check.due("a kern back", x.kern(-150), 0);
        check.due("a break on the page", x.penalty(4), 0);
        check.dueOpen(x, 0, 10, 0, 0, 0, 0, 0, 6, 4, 0);
    }

    /** "or p is -10000 or less, ENDS the page" */
    private static void endsAtPenaltiesOfMinus10000OrLess() {
        int[] penalties = {-9999, -10000, -10001, -100000};
        for (int p : penalties) {
            PageMaker x = withStretch();
            int ended = p <= -10000 ? 1 : 0;
            check.due("penalty " + p, x.penalty(p), ended);
            check.due("pages", x.pages(), ended);
            check.due("the open page's first box", x.open(0), ended == 1 ? PageMaker.NONE : 0);
        }
    }

    /** "itself among them" */
    private static void endsAtItselfIfItIsAlone() {
        PageMaker x = new PageMaker();
        x.frame(9, 0, 0);
        x.box(0, 10, 0);
        check.due("a break past the page", x.penalty(3), 1);
        check.duePage(x, 0, 0, 1, PageMaker.AWFUL, -1, 0, 0, PageMaker.AWFUL, 1);
        check.due("where the box is", x.where(0), 0);
    }

    /** "the least cost" */
    private static void endsAtTheLeastCost() {
        PageMaker x = withStretch();
        x.penalty(20);
        x.penalty(-30);
        x.penalty(-29);
        x.box(0, 91, 0);
        check.due("a break past the page", x.penalty(0), 1);
        check.duePage(x, 0, 0, 4, -30, 90, 1, 1, 0, 7);
        // By cost, not by badness: 99 with badness 100 is better than 100 with badness 0.
        PageMaker y = new PageMaker();
        y.frame(100, 0, 0);
        y.box(0, 80, 0);
        y.glue(0, 20, 0, 0);
        y.penalty(-1);
        y.box(0, 20, 0);
        y.penalty(100);
        y.box(0, 1, 0);
        y.penalty(0);
        check.duePage(y, 0, 0, 2, 99, 20, 0, 20, 100, 6);
    }

    /** "the last one of several" */
    private static void endsAtTheLastOfSeveralLeastCosts() {
        PageMaker x = withStretch();
        x.penalty(5);
        x.penalty(6);
        x.penalty(5);
        x.penalty(6);
        x.box(0, 91, 0);
        x.penalty(0);
        check.duePage(x, 0, 0, 5, 5, 90, 1, 1, 0, 8);
        PageMaker y = new PageMaker();
        y.frame(100, 0, 0);
        y.box(0, 10, 0);
        y.penalty(-500);
        y.penalty(9999);
        y.box(0, 91, 0);
        y.penalty(0);
        check.duePage(y, 0, 0, 2, 100000, 90, 0, 0, 10000, 4);
    }

    private static void endsAtItselfIfItIsForced() {
        PageMaker x = withStretch();
        x.penalty(-9999);
        x.box(0, 5, 0);
        check.due("a forced break", x.penalty(-10000), 1);
        check.duePage(x, 0, 0, 5, -10000, 85, 1, 1, 0, 5);
    }

    private static void endsBeforeAForcedBreakThatIsAwful() {
        PageMaker x = withFullPage();
        x.penalty(77);
        x.box(0, 1, 0);
        check.due("a forced break past the page", x.penalty(-10000), 2);
        check.duePage(x, 0, 0, 1, 77, 0, 0, 0, 0, 3);
        check.duePage(x, 1, 2, 3, -10000, 9, 0, 0, 10000, 3);
        PageMaker y = new PageMaker();
        y.frame(9, 0, 0);
        y.box(0, 10, 0);
        check.due("a forced break past the page alone", y.penalty(-10000), 1);
        check.duePage(y, 0, 0, 1, PageMaker.AWFUL, -1, 0, 0, PageMaker.AWFUL, 1);
    }

    /** "The next page begins at the item of that break" */
    private static void beginsTheNextPageAtTheItemOfTheBestBreak() {
        PageMaker x = withStretch();
        x.penalty(-30);
        x.box(0, 20, 0);
        x.glue(3, 0, 0, 2);
        x.box(0, 71, 0);
        check.due("a break past the page", x.penalty(0), 1);
        check.due("the first page's best break", x.page(0, 1), 3);
        check.dueOpen(x, 4, 94, 0, 0, 0, 0, 0, 7, 100000, 2);
        x.penalty(-10000);
        check.dueWhere(x, 0, 0, 0, -1, 1, 1, 1, 1, -1);
    }

    /** "its items are looked at at once, then" */
    private static void looksAtTheNextPagesItemsAtOnce() {
        PageMaker x = withStretch();
        x.penalty(-30);
        x.box(0, 20, 0);
        x.glue(3, 0, 0, 0);
        x.box(0, 90, 0);
        check.due("a break past two pages", x.penalty(0), 2);
        check.duePage(x, 0, 0, 3, -30, 90, 1, 1, 0, 7);
        check.duePage(x, 1, 4, 5, 100000, 80, 0, 0, 10000, 7);
        check.dueOpen(x, 6, 90, 0, 0, 0, 0, 0, 7, 100000, 0);
    }

    /** On the next page the same break has another list, and another cost. */
    private static void looksAgainAtABreakThatWasNotTheBest() {
        PageMaker x = withStretch();
        x.penalty(-30);
        x.box(0, 20, 0);
        x.penalty(10000);
        x.glue(0, 80, 0, 0);
        x.penalty(11);
        x.box(0, 75, 0);
        check.due("a break past the page", x.penalty(12), 1);
        check.due("the first page's best break", x.page(0, 1), 3);
        // 5 by 80: r is 18, the badness 0.
        check.dueOpen(x, 4, 95, 0, 80, 0, 0, 0, 9, 12, 0);
        x.box(0, 6, 0);
        check.due("a break past the next page", x.penalty(13), 2);
        check.duePage(x, 1, 4, 9, 12, 5, 0, 80, 0, 11);
    }

    private static void looksAgainAtAKernThatEndedThePage() {
        PageMaker x = withFullPage();
        x.penalty(7);
        x.box(0, 10, 0);
        x.kern(50);
        check.due("glue behind a kern past the page", x.glue(1, 1, 0, 1), 1);
        check.due("the kern ended the page", x.page(0, 7), 3);
        check.dueOpen(x, 2, 61, 0, 1, 0, 0, 0, 3, 0, 1);
        PageMaker y = withFullPage();
        y.penalty(7);
        y.box(0, 11, 0);
        y.kern(50);
        check.due("glue behind a kern past two pages", y.glue(1, 1, 0, 1), 2);
        check.duePage(y, 1, 2, 3, PageMaker.AWFUL, -1, 0, 0, PageMaker.AWFUL, 3);
        check.dueOpen(y, -1, 0, 0, 0, 0, 0, 0, -1, PageMaker.AWFUL, 0);
    }

    private static void beginsEachPageWithNoBestBreak() {
        PageMaker x = withStretch();
        x.penalty(-500);
        x.penalty(-10000);
        x.box(0, 50, 0);
        check.dueOpen(x, 5, 50, 0, 0, 0, 0, 0, -1, PageMaker.AWFUL, 0);
        x.penalty(3);
        check.dueOpen(x, 5, 50, 0, 0, 0, 0, 0, 6, 100000, 0);
    }

    /** The first break is the best each time, so that each page ends just behind its first box. */
    private static void endsManyPagesInOneCall() {
        int boxes = 160;
        LongRun run = new LongRun();
        run.frame(20 * boxes, 0, 0);
        for (int i = 0; i < boxes; i++) {
            run.box(0, 20, 0);
            run.glue(0, 1, 1, 0);
            check.due("penalty " + i, run.penalty(-5000 + i), 0);
        }
        check.due("a box too great", run.box(0, 20 * boxes + 1, 0), 0);
        check.due("pages that a penalty ends", run.penalty(0), boxes + 1);
        check.due("pages", run.ask().pages(), boxes + 1);
        for (int page = 0; page < boxes; page++) {
            check.due("first box of page " + page, run.ask().page(page, 0), 3 * page);
            check.due("break of page " + page, run.ask().page(page, 1), 3 * page + 2);
            check.due("cost of page " + page, run.ask().page(page, 2), -5000 + page);
            check.due("what ended page " + page, run.ask().page(page, 7), 3 * boxes + 1);
        }
        check.due("first box of the last page", run.ask().page(boxes, 0), 3 * boxes);
        check.due("break of the last page", run.ask().page(boxes, 1), 3 * boxes + 1);
    }
}

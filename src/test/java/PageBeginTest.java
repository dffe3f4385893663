/** Terms: where a page begins, what is dropped, the frame it has, and its top glue. */
public final class PageBeginTest {
    private static final int SIZE = Check.SIZE;
    private static final Check check = new Check();

    public static void main(String[] args) {
        beginsAtItem0();
        dropsAllBeforeTheFirstBox();
        hasNoBreakAmongWhatIsDropped();
        dropsTheItemOfTheBreakBefore();
        dropsOnEveryPage();
        hasTheFrameOfWhenItsFirstBoxComes();
        hasTheFrameOfWhenThePageBeforeEnds();
        hasTheFrameOfWhenThePageBeforeEndsBehindDroppedItems();
        hasOneFrameForAllPagesOfOneCall();
        hasTheFrameOfItsFirstBoxBehindItemsThereAlready();
        hasTopGlueNotBelow0();
        hasTopGlueAboveTheFirstBoxAlone();
        hasTopGlueOnEveryPage();
        hasTopGlueBeyondAnInt();
        check.end();
    }

    /** "A PAGE begins at an item (the first one at 0)" */
    private static void beginsAtItem0() {
        PageMaker x = new PageMaker();
        x.box(9, 1, 1);
        check.due("the first box", x.open(0), 0);
        x.penalty(-10000);
        check.due("where item 0 is", x.where(0), 0);
    }

    /** "glue, kerns and penalties before its first box are DROPPED" */
    private static void dropsAllBeforeTheFirstBox() {
        PageMaker x = new PageMaker();
        x.frame(100, 0, 9);
        x.glue(7, 7, 0, 7);
        x.glue(7, 7, 3, 7);
        x.kern(7);
        x.penalty(7);
        check.dueOpen(x, -1, 0, 0, 0, 0, 0, 0, -1, PageMaker.AWFUL, 0);
        x.box(0, 10, 2);
        check.dueOpen(x, 4, 10, 2, 0, 0, 0, 0, -1, PageMaker.AWFUL, 0);
        x.penalty(-10000);
        check.duePage(x, 0, 4, 5, -10000, 90, 0, 0, 10000, 5);
        check.dueWhere(x, -1, -1, -1, -1, 0, -1);
    }

    private static void hasNoBreakAmongWhatIsDropped() {
        PageMaker x = new PageMaker();
        check.due("a penalty with no box", x.penalty(0), 0);
        check.due("a forcing penalty with no box", x.penalty(-10000), 0);
        x.kern(SIZE);
        check.due("a kern and glue with no box", x.glue(SIZE, 0, 0, 0), 0);
        check.due("a forcing penalty behind them", x.penalty(-100000), 0);
        x.box(0, 1, 1);
        check.due("no break", x.open(7), PageMaker.NONE);
    }

    private static void dropsTheItemOfTheBreakBefore() {
        PageMaker x = new PageMaker();
        x.frame(10, 0, 0);
        x.box(0, 11, 0);
        check.due("glue past the page", x.glue(5, 5, 3, 5), 1);
        check.dueOpen(x, -1, 0, 0, 0, 0, 0, 0, -1, PageMaker.AWFUL, 0);
        x.box(0, 11, 0);
        x.kern(5);
        check.due("kern and glue past the page", x.glue(5, 5, 3, 5), 2);
        check.dueOpen(x, -1, 0, 0, 0, 0, 0, 0, -1, PageMaker.AWFUL, 0);
        x.box(0, 11, 0);
        check.due("a penalty past the page", x.penalty(5), 3);
        check.dueOpen(x, -1, 0, 0, 0, 0, 0, 0, -1, PageMaker.AWFUL, 0);
        x.box(0, 4, 0);
        check.dueOpen(x, 7, 4, 0, 0, 0, 0, 0, -1, PageMaker.AWFUL, 0);
        check.dueWhere(x, 0, -1, 1, -1, -1, 2, -1, -1);
    }

    private static void dropsOnEveryPage() {
        PageMaker x = new PageMaker();
        x.frame(50, 0, 0);
        x.box(0, 50, 0);
        x.glue(9, 9, 0, 9);
        x.kern(4);
        x.penalty(10000);
        x.box(0, 30, 0);
        check.due("glue past the page", x.glue(2, 1, 0, 1), 1);
        check.dueOpen(x, 4, 32, 0, 1, 0, 0, 0, 5, 100000, 1);
        x.penalty(-10000);
        check.dueWhere(x, 0, -1, -1, -1, 1, 1, -1);
    }

    /**
     * "it has the frame that there is when its first box comes to it (for a page that begins with items
     * that are there already: when the page before it ends)", and promise 2, "for pages whose first box
     * comes from now on": for the first page its first box comes when it comes in.
     */
    private static void hasTheFrameOfWhenItsFirstBoxComes() {
        PageMaker x = new PageMaker();
        x.frame(50, 10, 4);
        x.kern(7);
        x.frame(80, 15, 5);
        x.box(0, 10, 9);
        x.frame(90, 30, 6);
        check.due("length under the top then", x.open(1), 19);
        check.due("depth then", x.open(2), 5);
        x.box(0, 0, 9);
        check.due("depth later", x.open(2), 5);
        x.penalty(-10000);
        check.due("excess of the height then", x.page(0, 3), 80 - 28);
    }

    /** A box that is there already comes to its page when the page before it ends, not when it came in. */
    private static void hasTheFrameOfWhenThePageBeforeEnds() {
        PageMaker x = new PageMaker();
        x.frame(50, 0, 0);
        x.box(0, 50, 0);
        x.penalty(0);
        x.frame(60, 1, 1);
        x.box(0, 20, 3);
        x.frame(100, 40, 2);
        check.due("a break past the height", x.penalty(5), 1);
        check.due("the first page's excess", x.page(0, 3), 0);
        check.due("the next page's first box", x.open(0), 2);
        check.due("the next page's length", x.open(1), 41);
        check.due("the next page's depth", x.open(2), 2);
        x.frame(1, 1, 1);
        x.box(0, 10, 9);
        check.due("the next page's length in a later frame", x.open(1), 60);
        check.due("the next page's depth in a later frame", x.open(2), 2);
        x.penalty(-10000);
        check.due("the next page's excess", x.page(1, 3), 40);
        check.due("where the next page's box stands", x.stands(1, 2), 40);
        check.due("where its second box stands", x.stands(1, 4), 53);
    }

    /** So too behind items that are dropped, and for a box that came in before the page's own frame. */
    private static void hasTheFrameOfWhenThePageBeforeEndsBehindDroppedItems() {
        PageMaker x = new PageMaker();
        x.frame(50, 0, 0);
        x.box(0, 50, 0);
        x.glue(3, 0, 0, 0);
        x.kern(3);
        x.penalty(10000);
        x.box(0, 20, 3);
        x.frame(100, 40, 2);
        check.due("a break past the height", x.glue(0, 0, 0, 0), 1);
        check.dueOpen(x, 4, 43, 0, 0, 0, 0, 0, 5, 100000, 0);
        x.frame(1, 1, 1);
        x.penalty(-10000);
        check.duePage(x, 1, 4, 6, -10000, 57, 0, 0, 10000, 6);
    }

    private static void hasOneFrameForAllPagesOfOneCall() {
        PageMaker x = new PageMaker();
        x.frame(50, 0, 0);
        x.box(0, 10, 0);
        x.penalty(10000);
        x.glue(0, 1, 1, 0);
        x.penalty(-5000);
        x.box(0, 20, 0);
        x.frame(20, 0, 0);
        x.penalty(0);
        x.box(0, 21, 0);
        check.due("pages that one call ends", x.penalty(0), 3);
        check.duePage(x, 0, 0, 3, -5000, 40, 1, 1, 0, 7);
        check.duePage(x, 1, 4, 5, 0, 0, 0, 0, 0, 7);
        check.duePage(x, 2, 6, 7, PageMaker.AWFUL, -1, 0, 0, PageMaker.AWFUL, 7);
    }

    /**
     * Items are there already (that of the break always is), but no box: the first box comes to the page
     * only later, and promise 2 lets every frame until then hold for it. So both sentences are kept.
     */
    private static void hasTheFrameOfItsFirstBoxBehindItemsThereAlready() {
        PageMaker x = new PageMaker();
        x.frame(50, 0, 0);
        x.box(0, 10, 0);
        x.penalty(-10000);
        x.frame(70, 0, 0);
        x.kern(7);
        x.frame(80, 15, 3);
        x.glue(1, 1, 1, 1);
        check.dueOpen(x, -1, 0, 0, 0, 0, 0, 0, -1, PageMaker.AWFUL, 0);
        x.box(0, 10, 9);
        check.due("length under the new top", x.open(1), 21);
        check.due("depth under the new greatest depth", x.open(2), 3);
        x.frame(1, 1, 1);
        x.penalty(-10000);
        check.due("excess of the new height", x.page(1, 3), 59);
        x.box(0, 2, 2);
        check.due("length on the page behind it", x.open(1), 3);
        check.due("depth on the page behind it", x.open(2), 1);
    }

    /** "a kern that is as wide as the top less the first box's height, but not below 0" */
    private static void hasTopGlueNotBelow0() {
        int[] heights = {-12, 0, 29, 30, 31, 60};
        long[] want = {30, 30, 30, 30, 31, 60};
        for (int i = 0; i < heights.length; i++) {
            PageMaker x = new PageMaker();
            x.frame(1000, 30, 5);
            x.box(0, heights[i], 4);
            check.dueOpen(x, 0, want[i], 4, 0, 0, 0, 0, -1, PageMaker.AWFUL, 0);
            x.penalty(-10000);
            check.due("excess", x.page(0, 3), 1000 - want[i]);
            check.due("where the box stands", x.stands(0, 0), want[i]);
        }
    }

    private static void hasTopGlueAboveTheFirstBoxAlone() {
        PageMaker x = new PageMaker();
        x.frame(1000, 30, 0);
        x.box(0, 12, 0);
        x.box(0, 12, 0);
        check.due("length with a second box", x.open(1), 42);
        x.penalty(-10000);
        check.due("where the second box stands", x.stands(0, 1), 42);
    }

    private static void hasTopGlueOnEveryPage() {
        PageMaker x = new PageMaker();
        x.frame(40, 30, 0);
        x.box(0, 12, 0);
        x.penalty(0);
        x.box(0, 12, 0);
        check.due("a break past the page", x.penalty(0), 1);
        check.due("length of the next page", x.open(1), 30);
        x.penalty(-10000);
        x.box(0, 35, 0);
        check.due("length of the page behind it", x.open(1), 35);
    }

    private static void hasTopGlueBeyondAnInt() {
        PageMaker x = new PageMaker();
        x.frame(SIZE, SIZE, 0);
        x.box(0, -SIZE, 0);
        check.due("length", x.open(1), SIZE);
        PageMaker y = new PageMaker();
        y.frame(SIZE, -SIZE, 0);
        y.box(0, SIZE, 0);
        check.due("length of a box far above the top", y.open(1), SIZE);
    }
}

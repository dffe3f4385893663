/** Promise 1: a new object. */
public final class NewObjectTest {
    private static final Check check = new Check();

    public static void main(String[] args) {
        hasNoItems();
        hasNoPageAndNoItemToAskFor();
        hasTheHeightOfTheDocument();
        hasTheTopOfTheDocument();
        hasTheGreatestDepthOfTheDocument();
        ownsItsState();
        check.end();
    }

    /** "No items" */
    private static void hasNoItems() {
        check.due("a new object's state", Check.stateOf(new PageMaker()),
                "items 0 pages 0 open -1 0 0 0 0 0 0 -1 1073741823 0 where");
        PageMaker x = new PageMaker();
        x.box(0, 0, 0);
        check.due("the first item", x.open(0), 0);
    }

    private static void hasNoPageAndNoItemToAskFor() {
        for (int i = -1; i <= 1; i++) {
            int at = i;
            check.dueThrow(Check.INDEX, PageMaker::new, "page(" + i + ", 0)", x -> x.page(at, 0));
            check.dueThrow(Check.INDEX, PageMaker::new, "stands(" + i + ", 0)", x -> x.stands(at, 0));
            check.dueThrow(Check.INDEX, PageMaker::new, "where(" + i + ")", x -> x.where(at));
        }
    }

    /** "height 42152922": a box that is as high fills the page; one that is higher by one is too high. */
    private static void hasTheHeightOfTheDocument() {
        for (int more = -1; more <= 1; more++) {
            PageMaker x = new PageMaker();
            x.box(0, 42152922 + more, 0);
            x.penalty(-10000);
            check.due("excess with a box of 42152922 and " + more, x.page(0, 3), -more);
            check.due("cost of it", x.page(0, 2), more > 0 ? PageMaker.AWFUL : -10000);
        }
    }

    /** "top 655360" */
    private static void hasTheTopOfTheDocument() {
        int[] heights = {-1, 0, 655359, 655360, 655361};
        long[] want = {655360, 655360, 655360, 655360, 655361};
        for (int i = 0; i < heights.length; i++) {
            PageMaker x = new PageMaker();
            x.box(0, heights[i], 0);
            check.due("length with a box of " + heights[i], x.open(1), want[i]);
            x.penalty(-10000);
            check.due("where it stands", x.stands(0, 0), want[i]);
        }
    }

    /** "greatest depth 262144" */
    private static void hasTheGreatestDepthOfTheDocument() {
        for (int more = -1; more <= 1; more++) {
            PageMaker x = new PageMaker();
            x.box(0, 655360, 262144 + more);
            check.due("depth of 262144 and " + more, x.open(2), 262144 + Math.min(more, 0));
            check.due("length with it", x.open(1), 655360 + Math.max(more, 0));
        }
    }

    private static void ownsItsState() {
        PageMaker x = new PageMaker();
        x.frame(7, 7, 7);
        x.box(0, 1, 1);
        x.penalty(-10000);
        PageMaker y = new PageMaker();
        check.due("items of another new object", y.items(), 0);
        check.due("pages of another new object", y.pages(), 0);
        y.box(0, 0, 0);
        check.due("length with another object's frame", y.open(1), 655360);
    }
}

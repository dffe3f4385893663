/** Promise 1. */
public final class NewObjectTest {
    private static final Check check = new Check();

    public static void main(String[] args) {
        hasNoItems();
        hasTheFrameOfTheDocument();
        ownsItsState();
        check.end();
    }

    private static void hasNoItems() {
        PageMaker x = new PageMaker();
        check.due("a new object's state", Check.stateOf(x), "items 0 pages 0 open -1 0 0 0 0 0 0 -1 1073741823 0 where");
        check.dueThrow(Check.INDEX, x, "page(0, 0)", () -> x.page(0, 0));
        check.dueThrow(Check.INDEX, x, "stands(0, 0)", () -> x.stands(0, 0));
        check.dueThrow(Check.INDEX, x, "where(0)", () -> x.where(0));
    }

    private static void hasTheFrameOfTheDocument() {
        PageMaker x = new PageMaker();
        x.box(0, 655355, 262154);
        check.due("length with the first top and greatest depth", x.open(1), 655370);
        check.due("the first greatest depth", x.open(2), 262144);
        x.penalty(-10000);
        check.due("excess with the first height", x.page(0, 3), 42152922 - 655370);
        check.due("where the box stands below the first top", x.stands(0, 0), 655360);
    }

    private static void ownsItsState() {
        PageMaker x = new PageMaker();
        x.frame(7, 7, 7);
        x.box(0, 1, 1);
        PageMaker y = new PageMaker();
        check.due("items of another new object", y.items(), 0);
        y.box(0, 0, 0);
        check.due("length with another object's frame", y.open(1), 655360);
    }
}

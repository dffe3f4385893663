/** Promises 7 and 8: items and pages. */
public final class CountsTest {
    private static final Check check = new Check();

    public static void main(String[] args) {
        countsEveryKindOfItem();
        countsItemsOfAllPages();
        countsNoItemThatIsRefused();
        countsPagesThatHaveEnded();
        countsAllPagesThatOneCallEnds();
        check.end();
    }

    /** "How many items there are" */
    private static void countsEveryKindOfItem() {
        PageMaker x = new PageMaker();
        check.due("items", x.items(), 0);
        x.penalty(0);
        check.due("items with a penalty", x.items(), 1);
        x.kern(0);
        check.due("items with a kern", x.items(), 2);
        x.glue(0, 0, 0, 0);
        check.due("items with glue", x.items(), 3);
        x.box(0, 0, 0);
        check.due("items with a box", x.items(), 4);
        x.frame(0, 0, 0);
        check.due("items with a frame", x.items(), 4);
    }

    private static void countsItemsOfAllPages() {
        PageMaker x = new PageMaker();
        for (int page = 0; page < 5; page++) {
            x.box(0, 0, 0);
            x.penalty(-10000);
            x.kern(5);
        }
        check.due("items on the pages and dropped", x.items(), 15);
    }

    private static void countsNoItemThatIsRefused() {
        check.dueThrow(Check.ARGUMENT, Check::withOpenPage, "a wrong box", x -> x.box(-1, 0, 0));
        check.dueThrow(Check.ARGUMENT, Check::withOpenPage, "wrong glue", x -> x.glue(0, 0, 4, 0));
        check.dueThrow(Check.ARGUMENT, Check::withOpenPage, "a wrong kern", x -> x.kern(Integer.MAX_VALUE));
        check.dueThrow(Check.ARGUMENT, Check::withOpenPage, "a wrong penalty", x -> x.penalty(100001));
    }

    /** "How many pages have ended" */
    private static void countsPagesThatHaveEnded() {
        PageMaker x = new PageMaker();
        check.due("pages", x.pages(), 0);
        for (int page = 1; page <= 5; page++) {
            x.box(0, 0, 0);
            check.due("pages with an open one", x.pages(), page - 1);
            x.penalty(-10000);
            check.due("pages", x.pages(), page);
        }
    }

    private static void countsAllPagesThatOneCallEnds() {
        PageMaker x = new PageMaker();
        x.frame(10, 0, 0);
        x.box(0, 10, 0);
        x.penalty(0);
        x.box(0, 11, 0);
        check.due("pages before", x.pages(), 0);
        x.penalty(0);
        check.due("pages that one penalty ended", x.pages(), 2);
    }
}

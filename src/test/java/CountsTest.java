/** Promises 7 and 8. */
public final class CountsTest {
    private static final Check check = new Check();

    public static void main(String[] args) {
        countsEveryKindOfItem();
        countsPagesThatHaveEnded();
        countsAllPagesThatOneCallEnds(5);
        countsAllPagesThatOneCallEnds(160);
        countsAllPagesThatOneCallEnds(666);
        check.end();
    }

    private static void countsEveryKindOfItem() {
        PageMaker x = new PageMaker();
        check.due("items", x.items(), 0);
        x.penalty(0);
        check.due("items with a penalty", x.items(), 1);
        x.kern(0);
        check.due("items with a kern", x.items(), 2);
        x.glue(0, 0, 0, 0);
        check.due("items with glue", x.items(), 3);
        x.box(0, 0, 0);
        check.due("items with a box", x.items(), 4);
        x.frame(0, 0, 0);
        check.due("items with a frame", x.items(), 4);
        check.dueThrow(Check.ARGUMENT, x, "kern", () -> x.kern(Integer.MAX_VALUE));
        check.due("items with a wrong kern", x.items(), 4);
    }

    private static void countsPagesThatHaveEnded() {
        PageMaker x = new PageMaker();
        check.due("pages", x.pages(), 0);
        for (int page = 1; page <= 5; page++) {
            x.box(0, 0, 0);
            check.due("pages with an open one", x.pages(), page - 1);
            x.penalty(-10000);
            check.due("pages", x.pages(), page);
        }
        check.due("items on all pages", x.items(), 10);
    }

    /** The first break is the best each time, so that each page ends just behind its first box. */
    private static void countsAllPagesThatOneCallEnds(int boxes) {
        PageMaker x = new PageMaker();
        x.frame(20 * boxes, 0, 0);
        for (int i = 0; i < boxes; i++) {
            x.box(0, 20, 0);
            x.glue(0, 1, 1, 0);
            x.penalty(-5000 + i);
        }
        check.due("pages before", x.pages(), 0);
        x.box(0, 20 * boxes + 1, 0);
        check.due("pages with a box too great", x.pages(), 0);
        check.due("pages that a penalty ends", x.penalty(0), boxes + 1);
        check.due("pages", x.pages(), boxes + 1);
        for (int page = 0; page < boxes; page++) {
            check.due("first box of page " + page, x.page(page, 0), 3 * page);
            check.due("break of page " + page, x.page(page, 1), 3 * page + 2);
            check.due("what ended page " + page, x.page(page, 7), 3 * boxes + 1);
        }
        check.due("first box of the last page", x.page(boxes, 0), 3 * boxes);
        check.due("break of the last page", x.page(boxes, 1), 3 * boxes + 1);
    }
}

/** Promise 11. */
public final class WhereTest {
    private static final Check check = new Check();

    public static void main(String[] args) {
        tellsThePageOfEachItem();
        tellsNoPageForItemsThatThePageEndedBefore();
        refusesWhatIsNoItem();
        check.end();
    }

    private static void dueWhere(PageMaker x, int... want) {
        for (int item = 0; item < want.length; item++) {
            check.due("where(" + item + ")", x.where(item), want[item]);
        }
    }

    private static void tellsThePageOfEachItem() {
        PageMaker x = new PageMaker();
        x.glue(0, 0, 0, 0);
        x.kern(0);
        x.penalty(0);
        x.box(0, 0, 0);
        x.kern(0);
        x.penalty(0);
        x.glue(0, 0, 0, 0);
        x.box(0, 0, 0);
        dueWhere(x, -1, -1, -1, -1, -1, -1, -1, -1);
        x.penalty(-10000);
        dueWhere(x, -1, -1, -1, 0, 0, 0, 0, 0, -1);
        x.glue(0, 0, 0, 0);
        x.box(0, 0, 0);
        x.glue(0, 0, 0, 0);
        x.penalty(-10000);
        x.box(0, 0, 0);
        dueWhere(x, -1, -1, -1, 0, 0, 0, 0, 0, -1, -1, 1, 1, -1, -1);
    }

    private static void tellsNoPageForItemsThatThePageEndedBefore() {
        PageMaker x = new PageMaker();
        x.frame(10, 0, 0);
        x.box(0, 10, 0);
        x.glue(0, 0, 0, 0);
        x.box(0, 10, 0);
        x.glue(0, 0, 0, 0);
        check.due("pages", x.pages(), 1);
        dueWhere(x, 0, -1, -1, -1);
    }

    private static void refusesWhatIsNoItem() {
        PageMaker x = new PageMaker();
        check.dueThrow(Check.INDEX, x, "where(0) without items", () -> x.where(0));
        x.box(0, 0, 0);
        x.penalty(-10000);
        int[] wrong = {-1, 2, 1999, 2000, Integer.MIN_VALUE, Integer.MAX_VALUE};
        for (int w : wrong) {
            check.dueThrow(Check.INDEX, x, "where(" + w + ")", () -> x.where(w));
        }
    }
}

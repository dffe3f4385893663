/** Promise 11: where. */
public final class WhereTest {
    private static final Check check = new Check();

    public static void main(String[] args) {
        tellsThePageOfEachItem();
        tellsNoneForWhatWasDropped();
        tellsNoneForThePageThatHasNotEnded();
        tellsNoneForWhatIsBehindTheBestBreak();
        tellsThePageOfABoxThatIsTooHigh();
        refusesWhatIsNoItem();
        check.end();
    }

    /** "The page on which an item is (of its list up to the best break)" */
    private static void tellsThePageOfEachItem() {
        PageMaker x = new PageMaker();
        x.box(0, 0, 0);
        x.kern(0);
        x.penalty(0);
        x.glue(0, 0, 0, 0);
        x.box(0, 0, 0);
        x.penalty(-10000);
        x.box(0, 0, 0);
        x.penalty(-10000);
        x.box(0, 0, 0);
        x.glue(0, 0, 0, 0);
        x.penalty(-10000);
        check.dueWhere(x, 0, 0, 0, 0, 0, -1, 1, -1, 2, 2, -1);
    }

    /** "NONE when it was dropped" */
    private static void tellsNoneForWhatWasDropped() {
        PageMaker x = new PageMaker();
        x.glue(0, 0, 0, 0);
        x.kern(0);
        x.penalty(0);
        x.box(0, 0, 0);
        x.penalty(-10000);
        x.glue(0, 0, 0, 0);
        x.kern(0);
        x.box(0, 0, 0);
        x.penalty(-10000);
        check.dueWhere(x, -1, -1, -1, 0, -1, -1, -1, 1, -1);
    }

    /** "or the page has not ended" */
    private static void tellsNoneForThePageThatHasNotEnded() {
        PageMaker x = new PageMaker();
        x.kern(0);
        x.box(0, 0, 0);
        x.penalty(0);
        x.box(0, 0, 0);
        check.dueWhere(x, -1, -1, -1, -1);
        x.penalty(-10000);
        check.dueWhere(x, -1, 0, 0, 0, -1);
        x.box(0, 0, 0);
        check.dueWhere(x, -1, 0, 0, 0, -1, -1);
    }

    private static void tellsNoneForWhatIsBehindTheBestBreak() {
        PageMaker x = new PageMaker();
        x.frame(10, 0, 0);
        x.box(0, 10, 0);
        x.glue(0, 0, 0, 0);
        x.box(0, 10, 0);
        x.glue(0, 0, 0, 0);
        check.due("pages", x.pages(), 1);
        check.dueWhere(x, 0, -1, -1, -1);
        x.penalty(-10000);
        check.dueWhere(x, 0, -1, 1, 1, -1);
    }

    private static void tellsThePageOfABoxThatIsTooHigh() {
        PageMaker x = new PageMaker();
        x.frame(10, 0, 0);
        x.box(0, 11, 0);
        x.kern(5);
        x.glue(0, 0, 0, 0);
        check.dueWhere(x, 0, -1, -1);
    }

    /** "when there is no such item" */
    private static void refusesWhatIsNoItem() {
        check.dueThrow(Check.INDEX, PageMaker::new, "where(0) without items", x -> x.where(0));
        check.due("items", Check.withEndedPages().items(), 10);
        check.due("the first item", Check.withEndedPages().where(0), 0);
        check.due("the last item", Check.withEndedPages().where(9), PageMaker.NONE);
        int[] wrong = {-1, 10, 11, 1999, 2000, Integer.MIN_VALUE, Integer.MAX_VALUE};
        for (int item : wrong) {
            check.dueThrow(Check.INDEX, Check::withEndedPages, "where(" + item + ")", x -> x.where(item));
        }
    }
}

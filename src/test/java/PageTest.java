/** Promise 9. */
public final class PageTest {
    private static final Check check = new Check();

    public static void main(String[] args) {
        tellsAllOfAPageThatStretches();
        tellsAllOfAPageThatShrinks();
        tellsAFullPage();
        tellsThePageWithAnAwfulBreakAlone();
        tellsAPageByOneTooShortOrTooLong();
        takesTheGreatestOrderWithStretch();
        takesTheLastOfSeveralBestBreaks();
        ordersCostsNotBadness();
        refusesOtherPagesAndWhats();
        check.end();
    }

    private static void duePage(PageMaker x, int page, long... want) {
        for (int what = 0; what < want.length; what++) {
            check.due("page(" + page + ", " + what + ")", x.page(page, what), want[what]);
        }
    }

    private static void tellsAllOfAPageThatStretches() {
        PageMaker x = new PageMaker();
        x.frame(100, 0, 0);
        x.penalty(3);
        x.kern(3);
        x.box(0, 40, 0);
        x.glue(10, 20, 0, 5);
        x.box(0, 40, 0);
        x.penalty(30);
        x.glue(7, 1, 3, 0);
        x.box(0, 40, 0);
        x.glue(7, 1, 0, 0);
        check.due("pages", x.pages(), 1);
        // 297 * 10 / 20 is 148; its cube by 262144 is 12.
        duePage(x, 0, 2, 5, 42, 10, 0, 20, 12, 8);
    }

    private static void tellsAllOfAPageThatShrinks() {
        PageMaker x = new PageMaker();
        x.frame(100, 0, 0);
        x.box(0, 40, 0);
        x.glue(30, 0, 2, 20);
        x.box(0, 40, 0);
        x.penalty(-30);
        x.box(0, 40, 0);
        x.penalty(-10000);
        check.due("pages", x.pages(), 2);
        duePage(x, 0, 0, 3, -18, -10, 0, 20, 12, 5);
        duePage(x, 1, 4, 5, -10000, 60, 0, 0, 10000, 5);
    }

    private static void tellsAFullPage() {
        PageMaker x = new PageMaker();
        x.frame(100, 0, 0);
        x.box(0, 40, 0);
        x.glue(20, 7, 3, 7);
        x.glue(0, 7, 0, 0);
        x.box(0, 40, 0);
        x.penalty(-10000);
        duePage(x, 0, 0, 4, -10000, 0, 0, 0, 0, 4);
    }

    private static void tellsThePageWithAnAwfulBreakAlone() {
        PageMaker x = new PageMaker();
        x.frame(100, 0, 0);
        x.box(0, 40, 0);
        x.penalty(10000);
        x.glue(0, 0, 0, 29);
        x.box(0, 90, 0);
        x.glue(0, 0, 0, 1);
        duePage(x, 0, 0, 4, PageMaker.AWFUL, -30, 0, 29, PageMaker.AWFUL, 4);
    }

    private static void tellsAPageByOneTooShortOrTooLong() {
        for (int excess = -1; excess <= 1; excess += 2) {
            PageMaker x = new PageMaker();
            x.frame(100, 0, 0);
            x.box(0, 100 - excess, 0);
            x.penalty(10000);
            x.glue(0, 1, 2, 1);
            x.penalty(-10000);
            boolean stretches = excess > 0;
            duePage(x, 0, 0, 3, -10000, excess, stretches ? 2 : 0, 1, stretches ? 0 : 100, 3);
        }
    }

    private static void takesTheGreatestOrderWithStretch() {
        for (int order = 0; order < 4; order++) {
            PageMaker x = new PageMaker();
            x.frame(100, 0, 0);
            x.box(0, 40, 0);
            for (int lower = 0; lower <= order; lower++) {
                x.glue(0, 10 + lower, lower, 3);
            }
            x.glue(0, 0, 3, 3);
            x.glue(0, 5, order, 3);
            x.penalty(-10000);
            check.due("order " + order, x.page(0, 4), order);
            check.due("total of order " + order, x.page(0, 5), 15 + order);
            check.due("badness with order " + order, x.page(0, 6), order == 0 ? 6396 : 0);
        }
    }

    private static void takesTheLastOfSeveralBestBreaks() {
        PageMaker x = new PageMaker();
        x.frame(100, 0, 0);
        x.box(0, 40, 0);
        x.glue(0, 1, 1, 0);
        x.penalty(5);
        x.penalty(6);
        x.penalty(5);
        x.penalty(6);
        x.box(0, 100, 0);
        x.penalty(0);
        duePage(x, 0, 0, 4, 5, 60, 1, 1, 0, 7);
    }

    private static void ordersCostsNotBadness() {
        PageMaker x = new PageMaker();
        x.frame(100, 0, 0);
        x.box(0, 80, 0);
        x.glue(0, 20, 0, 0);
        x.penalty(-1);
        x.box(0, 20, 0);
        x.penalty(100);
        x.box(0, 1, 0);
        x.penalty(0);
        duePage(x, 0, 0, 2, 99, 20, 0, 20, 100, 6);
    }

    private static void refusesOtherPagesAndWhats() {
        PageMaker x = new PageMaker();
        x.box(0, 1, 1);
        check.dueThrow(Check.INDEX, x, "page(0, 0) of the open page", () -> x.page(0, 0));
        x.penalty(-10000);
        x.box(0, 1, 1);
        int[][] wrong = {
            {-1, 0}, {1, 0}, {2, 0}, {Integer.MIN_VALUE, 0}, {Integer.MAX_VALUE, 0},
            {0, -1}, {0, 8}, {0, Integer.MIN_VALUE}, {0, Integer.MAX_VALUE}, {1, 8}};
        for (int[] w : wrong) {
            check.dueThrow(Check.INDEX, x, "page(" + w[0] + ", " + w[1] + ")", () -> x.page(w[0], w[1]));
        }
    }
}

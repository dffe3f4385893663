/** Promise 9: page, and how a page is set. */
public final class PageTest {
    private static final int SIZE = Check.SIZE;
    private static final int AWFUL = PageMaker.AWFUL;
    private static final Check check = new Check();

    public static void main(String[] args) {
        tellsAllOfAPageThatStretches();
        tellsAllOfAPageThatShrinks();
        hasNoOrderAndNoTotalWithoutExcess();
        turnsAtAnExcessOfOne();
        hasOrder0AndTotal0WithoutStretch();
        hasTheGreatestOrderWithStretch();
        hasTheShrinkAsTotal();
        hasLessShrinkThanIsMissing();
        isSetUpToItsBestBreak();
        goesBeyondAnInt();
        tellsTheSameLater();
        refusesOtherPages();
        refusesOtherWhats();
        check.end();
    }

    private static void tellsAllOfAPageThatStretches() {
        PageMaker x = new PageMaker();
        x.frame(100, 0, 0);
        x.penalty(3);
        x.kern(3);
        x.box(0, 40, 0);
        x.glue(10, 20, 0, 5);
        x.box(0, 40, 0);
        x.penalty(30);
        x.glue(7, 1, 3, 0);
        x.box(0, 40, 0);
        x.glue(7, 1, 0, 0);
        check.due("pages", x.pages(), 1);
        // 297 * 10 / 20 is 148; its cube by 262144 is 12.
        check.duePage(x, 0, 2, 5, 42, 10, 0, 20, 12, 8);
    }

    private static void tellsAllOfAPageThatShrinks() {
        PageMaker x = new PageMaker();
        x.frame(100, 0, 0);
        x.box(0, 40, 0);
        x.glue(30, 0, 2, 20);
        x.box(0, 40, 0);
        x.penalty(-30);
        x.box(0, 40, 0);
        x.penalty(-10000);
        check.due("pages", x.pages(), 2);
        check.duePage(x, 0, 0, 3, -18, -10, 0, 20, 12, 5);
        check.duePage(x, 1, 4, 5, -10000, 60, 0, 0, 10000, 5);
    }

    /** "if it is 0, both 0" */
    private static void hasNoOrderAndNoTotalWithoutExcess() {
        PageMaker x = new PageMaker();
        x.frame(100, 0, 0);
        x.box(0, 40, 0);
        x.glue(20, 7, 3, 7);
        x.glue(0, 7, 0, 0);
        x.box(0, 40, 0);
        x.penalty(-10000);
        check.duePage(x, 0, 0, 4, -10000, 0, 0, 0, 0, 4);
    }

    /** "if it is above 0 .. if it is below 0 .." */
    private static void turnsAtAnExcessOfOne() {
        for (int excess = -1; excess <= 1; excess++) {
            PageMaker x = new PageMaker();
            x.frame(100, 0, 0);
            x.box(0, 100 - excess, 0);
            x.penalty(10000);
            x.glue(0, 3, 2, 1);
            x.penalty(-10000);
            int order = excess > 0 ? 2 : 0;
            int total = excess > 0 ? 3 : -excess;
            check.duePage(x, 0, 0, 3, -10000, excess, order, total, excess < 0 ? 100 : 0, 3);
        }
    }

    /** "0 if there is none" */
    private static void hasOrder0AndTotal0WithoutStretch() {
        PageMaker x = new PageMaker();
        x.frame(100, 0, 0);
        x.box(0, 40, 0);
        for (int order = 0; order < 4; order++) {
            x.glue(0, 0, order, 9);
        }
        x.penalty(-10000);
        check.duePage(x, 0, 0, 5, -10000, 60, 0, 0, 10000, 5);
    }

    /** "its ORDER is the greatest one with stretch .., THE TOTAL that" */
    private static void hasTheGreatestOrderWithStretch() {
        for (int order = 0; order < 4; order++) {
            PageMaker x = new PageMaker();
            x.frame(100, 0, 0);
            x.box(0, 40, 0);
            for (int lower = 0; lower <= order; lower++) {
                x.glue(0, 10 + lower, lower, 3);
            }
            x.glue(0, 0, 3, 3);
            x.glue(0, 5, order, 3);
            x.penalty(-10000);
            check.due("order " + order, x.page(0, 4), order);
            check.due("total of order " + order, x.page(0, 5), 15 + order);
            check.due("badness with order " + order, x.page(0, 6), order == 0 ? 6396 : 0);
        }
    }

    /** "if it is below 0, the order 0, the total the shrink" */
    private static void hasTheShrinkAsTotal() {
        PageMaker x = new PageMaker();
        x.frame(100, 0, 0);
        x.box(0, 40, 0);
        x.glue(30, 1, 1, 20);
        x.glue(30, 1, 3, 5);
        x.penalty(-10000);
        check.duePage(x, 0, 0, 3, -10000, 0, 0, 0, 0, 3);
        x.box(0, 41, 0);
        x.glue(30, 1, 1, 20);
        x.glue(30, 1, 3, 5);
        x.penalty(-10000);
        check.duePage(x, 1, 4, 7, -10000, -1, 0, 25, 0, 7);
    }

    private static void hasLessShrinkThanIsMissing() {
        PageMaker x = new PageMaker();
        x.frame(100, 0, 0);
        x.box(0, 40, 0);
        x.penalty(10000);
        x.glue(0, 0, 0, 29);
        x.box(0, 90, 0);
        x.glue(0, 0, 0, 1);
        check.duePage(x, 0, 0, 4, AWFUL, -30, 0, 29, AWFUL, 4);
    }

    /** "of its list up to the best break" */
    private static void isSetUpToItsBestBreak() {
        PageMaker x = new PageMaker();
        x.frame(100, 0, 0);
        x.box(0, 40, 0);
        x.penalty(10000);
        x.glue(10, 6, 1, 3);
        x.penalty(-40);
        x.glue(10, 7, 2, 4);
        x.penalty(-39);
        x.box(0, 50, 0);
        x.penalty(0);
        check.duePage(x, 0, 0, 3, -40, 50, 1, 6, 0, 7);
    }

    private static void goesBeyondAnInt() {
        PageMaker x = new PageMaker();
        x.frame(SIZE, -SIZE, 0);
        x.box(0, -SIZE, 0);
        for (int i = 0; i < 3; i++) {
            x.glue(-SIZE, SIZE, 2, 0);
        }
        x.penalty(-10000);
        check.duePage(x, 0, 0, 4, -10000, 5L * SIZE, 2, 3L * SIZE, 0, 4);
        x.frame(0, 0, 0);
        x.box(0, SIZE, 0);
        x.penalty(10000);
        for (int i = 0; i < 3; i++) {
            x.glue(SIZE, 0, 0, SIZE);
        }
        x.penalty(-10000);
        check.duePage(x, 1, 5, 10, AWFUL, -4L * SIZE, 0, 3L * SIZE, AWFUL, 10);
    }

    private static void tellsTheSameLater() {
        PageMaker x = Check.withEndedPages();
        long[] before = new long[8];
        for (int what = 0; what < 8; what++) {
            before[what] = x.page(0, what);
        }
        x.frame(1, 1, 1);
        Check.goOn(x);
        check.duePage(x, 0, before);
    }

    /** "when there is no such page" */
    private static void refusesOtherPages() {
        check.dueThrow(Check.INDEX, Check::withOpenPage, "page(0, 0) of the open page", x -> x.page(0, 0));
        int pages = Check.withEndedPages().pages();
        check.due("pages", pages, 2);
        check.due("the first page's first box", Check.withEndedPages().page(0, 0), 0);
        check.due("the last page's first box", Check.withEndedPages().page(1, 0), 6);
        int[] wrong = {-1, 2, 3, Integer.MIN_VALUE, Integer.MAX_VALUE};
        for (int page : wrong) {
            check.dueThrow(Check.INDEX, Check::withEndedPages, "page(" + page + ", 0)", x -> x.page(page, 0));
            check.dueThrow(Check.INDEX, Check::withEndedPages, "page(" + page + ", 8)", x -> x.page(page, 8));
        }
    }

    /** "or what" */
    private static void refusesOtherWhats() {
        int[] wrong = {-1, 8, 9, Integer.MIN_VALUE, Integer.MAX_VALUE};
        for (int page = 0; page < 2; page++) {
            int at = page;
            for (int what : wrong) {
                check.dueThrow(Check.INDEX, Check::withEndedPages, "page(" + page + ", " + what + ")",
                        x -> x.page(at, what));
            }
        }
        check.due("the first what", Check.withEndedPages().page(0, 0), 0);
        check.due("the last what", Check.withEndedPages().page(0, 7), 5);
    }
}

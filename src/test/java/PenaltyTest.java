/** Promise 6: penalty. Where a penalty is a break is in BreakTest, where it ends a page in EndTest. */
public final class PenaltyTest {
    private static final Check check = new Check();

    public static void main(String[] args) {
        comesIn();
        answersHowManyPagesHaveEndedInAll();
        refusesWhatIsNotFromMinus100000To100000();
        takesTheOutermostPenalties();
        check.end();
    }

    /** "A penalty comes in" */
    private static void comesIn() {
        PageMaker x = new PageMaker();
        x.frame(10, 0, 9);
        x.box(7, 10, 2);
        x.penalty(3);
        check.due("items", x.items(), 2);
        check.dueOpen(x, 0, 10, 2, 0, 0, 0, 0, 1, 3, 0);
    }

    /** "how many pages have ended in all" */
    private static void answersHowManyPagesHaveEndedInAll() {
        PageMaker x = new PageMaker();
        x.frame(10, 0, 0);
        check.due("penalty before any box", x.penalty(-10000), 0);
        x.box(0, 10, 0);
        check.due("penalty on the page", x.penalty(0), 0);
        check.due("penalty that ends the page", x.penalty(-10000), 1);
        check.due("penalty with no box on the page", x.penalty(-10000), 1);
        x.box(0, 10, 0);
        check.due("penalty on the second page", x.penalty(0), 1);
        x.box(0, 11, 0);
        check.due("penalty that ends two pages", x.penalty(0), 3);
    }

    /** "when it is not -100000 .. 100000" */
    private static void refusesWhatIsNotFromMinus100000To100000() {
        check.dueRange("penalty", -100000, 100000, PageMaker::penalty);
    }

    private static void takesTheOutermostPenalties() {
        PageMaker x = new PageMaker();
        x.frame(10, 0, 0);
        x.box(0, 10, 0);
        check.due("the greatest penalty", x.penalty(100000), 0);
        check.due("no break", x.open(7), PageMaker.NONE);
        check.due("the least penalty", x.penalty(-100000), 1);
        check.due("its cost", x.page(0, 2), -100000);
        check.due("items", x.items(), 3);
    }
}

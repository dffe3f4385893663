/** Promise 5: kern. What a kern adds is in LengthTest, where it is a break in BreakTest. */
public final class KernTest {
    private static final int SIZE = Check.SIZE;
    private static final Check check = new Check();

    public static void main(String[] args) {
        comesIn();
        answersHowManyPagesHaveEndedInAll();
        refusesWhatIsNoSize();
        takesTheOutermostSizes();
        check.end();
    }

    /** "A kern comes in" */
    private static void comesIn() {
        PageMaker x = new PageMaker();
        x.frame(100, 0, 9);
        x.box(7, 10, 2);
        x.kern(3);
        check.due("items", x.items(), 2);
        check.dueOpen(x, 0, 15, 0, 0, 0, 0, 0, -1, PageMaker.AWFUL, 0);
    }

    /** "how many pages have ended in all" */
    private static void answersHowManyPagesHaveEndedInAll() {
        PageMaker x = new PageMaker();
        x.frame(10, 0, 0);
        check.due("kern before any box", x.kern(1), 0);
        x.box(0, 11, 0);
        check.due("kern past the page", x.kern(1), 0);
        check.due("glue behind it", x.glue(0, 0, 0, 0), 1);
        check.due("kern on the next page", x.kern(1), 1);
        x.box(0, 1, 0);
        x.penalty(-10000);
        check.due("kern behind two pages", x.kern(1), 2);
    }

    /** "when it is no size" */
    private static void refusesWhatIsNoSize() {
        check.dueRange("kern", -SIZE, SIZE, PageMaker::kern);
    }

    private static void takesTheOutermostSizes() {
        PageMaker x = new PageMaker();
        x.frame(0, 0, 0);
        x.box(0, 0, 0);
        for (int i = 1; i <= 3; i++) {
            x.kern(SIZE);
            check.due("length of great kerns", x.open(1), (long) i * SIZE);
        }
        for (int i = 2; i >= -3; i--) {
            x.kern(-SIZE);
            check.due("length with negative kerns", x.open(1), (long) i * SIZE);
        }
    }
}

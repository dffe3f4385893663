/** Terms: what is a break, when it is looked at, and the list up to it. */
public final class BreakTest {
    private static final int NONE = PageMaker.NONE;
    private static final Check check = new Check();

    public static void main(String[] args) {
        isGlueWithABoxJustBefore();
        isNoGlueWithAnythingElseBefore();
        isAKernWithGlueJustBehind();
        isNoKernWithAnythingElseBehind();
        isAKernBehindAnything();
        isAKernOnlyWhenTheItemBehindIsThere();
        isAPenaltyBelow10000();
        isAPenaltyBehindAnything();
        isNoBox();
        isOnlyBehindTheFirstBox();
        hasPenalty0ForGlueAndKerns();
        hasTheListWithoutItsOwnItem();
        hasTheListWithoutTheDepthAtItsEnd();
        check.end();
    }

    /** A break costs here what its penalty is: the page can always stretch. */
    private static PageMaker withBoxAndStretch() {
        PageMaker x = new PageMaker();
        x.frame(1000, 0, 9);
        x.box(0, 10, 0);
        x.penalty(10000);
        x.glue(0, 1, 1, 0);
        check.due("no break yet", x.open(7), NONE);
        return x;
    }

    private static void dueBest(PageMaker x, String when, long item, long cost) {
        check.due("the best break " + when, x.open(7), item);
        check.due("its cost " + when, x.open(8), cost);
    }

    /** "glue with a box just before it" */
    private static void isGlueWithABoxJustBefore() {
        PageMaker x = withBoxAndStretch();
        x.box(0, 10, 0);
        x.glue(1, 0, 0, 0);
        dueBest(x, "behind a box", 4, 0);
        PageMaker y = new PageMaker();
        y.frame(10, 0, 0);
        y.box(0, 10, 0);
        y.glue(1, 0, 0, 0);
        dueBest(y, "behind the first box", 1, 0);
    }

    private static void isNoGlueWithAnythingElseBefore() {
        PageMaker x = withBoxAndStretch();
        x.glue(1, 0, 0, 0);
        dueBest(x, "behind glue", NONE, PageMaker.AWFUL);
        x.penalty(10000);
        x.glue(1, 0, 0, 0);
        dueBest(x, "behind a penalty", NONE, PageMaker.AWFUL);
        x.box(0, 1, 0);
        x.penalty(10000);
        x.glue(1, 0, 0, 0);
        dueBest(x, "behind a box and a penalty", NONE, PageMaker.AWFUL);
        x.kern(1);
        x.glue(1, 0, 0, 0);
        dueBest(x, "behind a kern is the kern", 9, 0);
    }

    /** "a kern with glue just behind it" */
    private static void isAKernWithGlueJustBehind() {
        PageMaker x = withBoxAndStretch();
        x.box(0, 10, 0);
        x.kern(1);
        x.glue(1, 0, 0, 0);
        dueBest(x, "at the kern", 4, 0);
    }

    private static void isNoKernWithAnythingElseBehind() {
        PageMaker x = withBoxAndStretch();
        x.kern(1);
        x.box(0, 10, 0);
        dueBest(x, "with a box behind", NONE, PageMaker.AWFUL);
        x.kern(1);
        x.kern(1);
        dueBest(x, "with a kern behind", NONE, PageMaker.AWFUL);
        x.penalty(10000);
        dueBest(x, "with a penalty behind", NONE, PageMaker.AWFUL);
        x.glue(1, 0, 0, 0);
        dueBest(x, "with a penalty and glue behind", NONE, PageMaker.AWFUL);
    }

    private static void isAKernBehindAnything() {
        PageMaker x = withBoxAndStretch();
        x.kern(1);
        x.glue(1, 0, 0, 0);
        dueBest(x, "behind glue", 3, 0);
        x.kern(1);
        x.kern(1);
        x.glue(1, 0, 0, 0);
        dueBest(x, "behind a kern", 6, 0);
        x.penalty(10000);
        x.kern(1);
        x.glue(1, 0, 0, 0);
        dueBest(x, "behind a penalty", 9, 0);
    }

    /** "a kern when the item behind it is there" */
    private static void isAKernOnlyWhenTheItemBehindIsThere() {
        PageMaker x = withBoxAndStretch();
        check.due("a kern", x.kern(1), 0);
        dueBest(x, "with nothing behind", NONE, PageMaker.AWFUL);
        x.glue(1, 0, 0, 0);
        dueBest(x, "with glue behind", 3, 0);
        PageMaker y = new PageMaker();
        y.frame(9, 0, 0);
        y.box(0, 10, 0);
        check.due("a kern past the page", y.kern(1), 0);
        check.due("glue behind it", y.glue(0, 0, 0, 0), 1);
    }

    /** "a penalty below 10000" */
    private static void isAPenaltyBelow10000() {
        PageMaker x = withBoxAndStretch();
        x.penalty(100000);
        x.penalty(10001);
        x.penalty(10000);
        dueBest(x, "at penalties not below 10000", NONE, PageMaker.AWFUL);
        x.penalty(9999);
        dueBest(x, "at 9999", 6, 9999);
        x.penalty(1);
        dueBest(x, "at 1", 7, 1);
        x.penalty(0);
        dueBest(x, "at 0", 8, 0);
        x.penalty(-9999);
        dueBest(x, "at -9999", 9, -9999);
        PageMaker y = new PageMaker();
        y.frame(9, 0, 0);
        y.box(0, 10, 0);
        check.due("penalty 10000 past the page", y.penalty(10000), 0);
        check.due("penalty 100000 past the page", y.penalty(100000), 0);
        check.due("penalty 9999 past the page", y.penalty(9999), 1);
    }

    private static void isAPenaltyBehindAnything() {
        PageMaker x = withBoxAndStretch();
        x.penalty(4);
        dueBest(x, "behind glue", 3, 4);
        x.penalty(3);
        dueBest(x, "behind a penalty", 4, 3);
        x.kern(1);
        x.penalty(2);
        dueBest(x, "behind a kern", 6, 2);
        x.box(0, 1, 0);
        x.penalty(1);
        dueBest(x, "behind a box", 8, 1);
        PageMaker y = new PageMaker();
        y.frame(10, 0, 0);
        y.box(0, 10, 0);
        y.penalty(3);
        dueBest(y, "behind the first box", 1, 3);
    }

    private static void isNoBox() {
        PageMaker x = withBoxAndStretch();
        x.box(0, 1, 1);
        x.box(0, 1, 1);
        dueBest(x, "with boxes alone", NONE, PageMaker.AWFUL);
        check.due("a box past the page", x.box(0, 5000, 0), 0);
        check.due("a box far past the page", x.box(0, 5000, 0), 0);
    }

    /** "just before an item behind the page's first box" */
    private static void isOnlyBehindTheFirstBox() {
        PageMaker x = new PageMaker();
        x.penalty(0);
        x.kern(1);
        x.glue(1, 1, 1, 1);
        x.penalty(-10000);
        x.box(0, 1, 1);
        dueBest(x, "up to the first box", NONE, PageMaker.AWFUL);
        x.penalty(-10000);
        x.kern(1);
        x.glue(1, 1, 1, 1);
        x.penalty(-10000);
        check.due("pages", x.pages(), 1);
        x.box(0, 1, 1);
        dueBest(x, "up to the next page's first box", NONE, PageMaker.AWFUL);
    }

    /** "It has the penalty p, 0 for glue and kerns" */
    private static void hasPenalty0ForGlueAndKerns() {
        PageMaker x = new PageMaker();
        x.frame(100, 0, 0);
        x.box(0, 50, 0);
        x.penalty(10000);
        x.glue(0, 50, 0, 0);
        x.box(0, 0, 0);
        x.glue(0, 0, 0, 0);
        dueBest(x, "at glue, of badness 100", 4, 100);
        x.penalty(10000);
        x.kern(0);
        x.glue(0, 0, 0, 0);
        dueBest(x, "at a kern, of badness 100", 6, 100);
        x.penalty(1);
        dueBest(x, "before a penalty of 1", 6, 100);
    }

    /** "the list up to it" */
    private static void hasTheListWithoutItsOwnItem() {
        PageMaker x = new PageMaker();
        x.frame(10, 0, 0);
        x.box(0, 10, 0);
        check.due("wide glue", x.glue(500, 0, 0, 0), 0);
        dueBest(x, "before wide glue", 1, 0);
        PageMaker y = new PageMaker();
        y.frame(10, 0, 0);
        y.box(0, 10, 0);
        y.kern(500);
        check.due("glue behind a wide kern", y.glue(500, 0, 0, 0), 0);
        dueBest(y, "before a wide kern", 1, 0);
        PageMaker z = new PageMaker();
        z.frame(10, 0, 0);
        z.box(0, 9, 0);
        z.glue(0, 9, 3, 9);
        dueBest(z, "before glue that stretches", 1, 100000);
        PageMaker u = new PageMaker();
        u.frame(10, 0, 0);
        u.box(0, 11, 0);
        check.due("glue that shrinks", u.glue(0, 9, 3, 9), 1);
        check.due("the total of the list before it", u.page(0, 5), 0);
        PageMaker v = new PageMaker();
        v.frame(10, 0, 0);
        v.box(0, 9, 0);
        v.kern(0);
        v.glue(0, 9, 3, 9);
        dueBest(v, "before a kern and glue that stretches", 1, 100000);
        PageMaker w = new PageMaker();
        w.frame(10, 0, 0);
        w.box(0, 9, 0);
        w.kern(1);
        w.kern(-5);
        w.glue(0, 0, 0, 0);
        dueBest(w, "before the second of two kerns", 2, 0);
    }

    private static void hasTheListWithoutTheDepthAtItsEnd() {
        PageMaker x = new PageMaker();
        x.frame(10, 0, 3);
        x.box(0, 10, 3);
        x.penalty(5);
        dueBest(x, "behind a box with depth", 1, 5);
        PageMaker y = new PageMaker();
        y.frame(10, 0, 3);
        y.box(0, 10, 3);
        y.kern(0);
        y.glue(0, 0, 0, 0);
        dueBest(y, "at a kern behind a box with depth", 1, 0);
        PageMaker z = new PageMaker();
        z.frame(10, 0, 3);
        z.box(0, 10, 4);
        check.due("a box with a depth above the greatest", z.penalty(5), 1);
    }
}

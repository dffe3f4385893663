/** Promise 5. */
public final class KernTest {
    private static final int SIZE = 1073741823;
    private static final Check check = new Check();

    public static void main(String[] args) {
        addsItsWidth();
        isABreakOnlyWhenGlueIsBehindIt();
        isABreakWithoutItsWidth();
        endsAPageWhenGlueComes();
        isDroppedBeforeTheFirstBox();
        takesTheOutermostSizes();
        refusesWhatIsNoKern();
        check.end();
    }

    private static void addsItsWidth() {
        PageMaker x = new PageMaker();
        x.frame(1000, 0, 9);
        x.box(0, 10, 4);
        check.due("kern", x.kern(5), 0);
        check.due("length with depth and kern", x.open(1), 19);
        check.due("depth", x.open(2), 0);
        x.kern(-20);
        check.due("length with a negative kern", x.open(1), -1);
    }

    private static void isABreakOnlyWhenGlueIsBehindIt() {
        PageMaker x = new PageMaker();
        x.frame(1000, 0, 0);
        x.box(0, 10, 0);
        x.kern(5);
        check.due("no break with nothing behind it", x.open(7), PageMaker.NONE);
        x.kern(5);
        check.due("no break with a kern behind it", x.open(7), PageMaker.NONE);
        x.penalty(10000);
        check.due("no break with a penalty behind it", x.open(7), PageMaker.NONE);
        x.kern(5);
        x.box(0, 10, 0);
        check.due("no break with a box behind it", x.open(7), PageMaker.NONE);
        x.kern(5);
        x.glue(0, 0, 0, 0);
        check.due("a break with glue behind it", x.open(7), 6);
        check.due("what it costs", x.open(8), 100000);
    }

    private static void isABreakWithoutItsWidth() {
        PageMaker x = new PageMaker();
        x.frame(10, 0, 3);
        x.box(0, 10, 3);
        x.kern(500);
        check.due("glue behind a wide kern", x.glue(0, 0, 0, 0), 0);
        check.due("the list up to the kern fills the page", x.open(8), 0);
        PageMaker y = new PageMaker();
        y.frame(10, 0, 3);
        y.box(0, 9, 3);
        y.glue(0, 0, 0, 0);
        y.kern(-2);
        y.kern(500);
        check.due("glue behind two kerns", y.glue(0, 0, 1, 0), 0);
        check.due("the list up to the second kern", y.open(8), 0);
        check.due("the second kern is the break", y.open(7), 3);
    }

    private static void endsAPageWhenGlueComes() {
        PageMaker x = new PageMaker();
        x.frame(10, 0, 0);
        x.box(0, 11, 0);
        check.due("kern past the page", x.kern(5), 0);
        check.due("glue behind it", x.glue(0, 0, 0, 0), 1);
        check.due("the break", x.page(0, 1), 1);
        check.due("the item that ended the page", x.page(0, 7), 1);
        check.due("nothing on the next page", x.open(0), PageMaker.NONE);
        check.due("kern on the next page", x.kern(5), 1);
        check.due("glue behind it there", x.glue(0, 0, 0, 0), 1);
    }

    private static void isDroppedBeforeTheFirstBox() {
        PageMaker x = new PageMaker();
        x.frame(100, 0, 0);
        x.kern(7);
        x.glue(1, 1, 1, 1);
        check.due("no box yet", x.open(1), 0);
        check.due("no break yet", x.open(7), PageMaker.NONE);
        x.box(0, 10, 0);
        check.due("length without dropped items", x.open(1), 10);
    }

    private static void takesTheOutermostSizes() {
        PageMaker x = new PageMaker();
        x.frame(0, 0, 0);
        x.box(0, 0, 0);
        x.kern(SIZE);
        x.kern(SIZE);
        x.kern(SIZE);
        check.due("length of great kerns", x.open(1), 3L * SIZE);
        for (int i = 0; i < 6; i++) {
            x.kern(-SIZE);
        }
        check.due("length of negative kerns", x.open(1), -3L * SIZE);
    }

    private static void refusesWhatIsNoKern() {
        PageMaker x = new PageMaker();
        x.box(0, 1, 1);
        int[] wrong = {SIZE + 1, -SIZE - 1, Integer.MIN_VALUE, Integer.MAX_VALUE};
        for (int w : wrong) {
            check.dueThrow(Check.ARGUMENT, x, "kern(" + w + ")", () -> x.kern(w));
        }
    }
}

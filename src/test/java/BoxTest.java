/** Promise 3: box. What a box adds is in LengthTest, the 2000 items are in LimitTest. */
public final class BoxTest {
    private static final int SIZE = Check.SIZE;
    private static final Check check = new Check();

    public static void main(String[] args) {
        comesIn();
        answersHowManyPagesHaveEndedInAll();
        refusesATagBelow0();
        refusesAHeightThatIsNoSize();
        refusesADepthThatIsNoSize();
        takesTheOutermostSizes();
        asksNothingOfItsTag();
        check.end();
    }

    /** "A box comes in" */
    private static void comesIn() {
        PageMaker x = new PageMaker();
        x.frame(100, 0, 9);
        x.kern(3);
        x.box(7, 10, 2);
        check.due("items", x.items(), 2);
        check.dueOpen(x, 1, 10, 2, 0, 0, 0, 0, -1, PageMaker.AWFUL, 0);
    }

    /** "how many pages have ended in all" */
    private static void answersHowManyPagesHaveEndedInAll() {
        PageMaker x = new PageMaker();
        check.due("box on the first page", x.box(1, 1, 1), 0);
        check.due("another", x.box(1, 1, 1), 0);
        x.penalty(-10000);
        check.due("box on the second page", x.box(1, 1, 1), 1);
        x.penalty(-10000);
        check.due("box on the third page", x.box(1, 1, 1), 2);
        check.due("another", x.box(1, SIZE, 1), 2);
    }

    /** "when tag is negative" */
    private static void refusesATagBelow0() {
        check.dueRange("tag", 0, Integer.MAX_VALUE, (x, v) -> x.box(v, 5, 5));
    }

    /** "or one of the others is no size" */
    private static void refusesAHeightThatIsNoSize() {
        check.dueRange("height", -SIZE, SIZE, (x, v) -> x.box(0, v, 5));
    }

    private static void refusesADepthThatIsNoSize() {
        check.dueRange("depth", -SIZE, SIZE, (x, v) -> x.box(0, 5, v));
    }

    private static void takesTheOutermostSizes() {
        PageMaker x = new PageMaker();
        x.frame(0, 0, 0);
        x.box(Integer.MAX_VALUE, SIZE, SIZE);
        check.due("length of the greatest box", x.open(1), 2147483646L);
        x.box(0, SIZE, -SIZE);
        check.due("length of two great boxes", x.open(1), 3221225469L);
        check.due("the least depth", x.open(2), -SIZE);
        x.box(0, -SIZE, SIZE);
        check.due("length of three great boxes", x.open(1), 2147483646L);
        check.due("items", x.items(), 3);
    }

    private static void asksNothingOfItsTag() {
        int[] tags = {0, 1, Integer.MAX_VALUE};
        for (int tag : tags) {
            PageMaker x = new PageMaker();
            x.box(tag, 5, 5);
            x.box(tag, 5, 5);
            PageMaker y = new PageMaker();
            y.box(3, 5, 5);
            y.box(4, 5, 5);
            check.due("state with tags " + tag, Check.stateOf(x), Check.stateOf(y));
        }
    }
}

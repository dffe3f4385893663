/** Promise 4: glue. What glue adds is in LengthTest, where it is a break in BreakTest. */
public final class GlueTest {
    private static final int SIZE = Check.SIZE;
    private static final Check check = new Check();

    public static void main(String[] args) {
        comesIn();
        answersHowManyPagesHaveEndedInAll();
        refusesAWidthThatIsNoSize();
        refusesAStretchThatIsNoSizeOrBelow0();
        refusesAnOrderThatIsNot0To3();
        refusesAShrinkThatIsNoSizeOrBelow0();
        takesTheOutermostSizes();
        takes0();
        check.end();
    }

    /** "Glue comes in" */
    private static void comesIn() {
        PageMaker x = new PageMaker();
        x.frame(100, 0, 9);
        x.box(7, 10, 2);
        x.glue(3, 4, 2, 5);
        check.due("items", x.items(), 2);
        check.dueOpen(x, 0, 15, 0, 0, 0, 4, 0, 1, 100000, 5);
    }

    /** "how many pages have ended in all" */
    private static void answersHowManyPagesHaveEndedInAll() {
        PageMaker x = new PageMaker();
        x.frame(20, 0, 0);
        check.due("glue before any box", x.glue(1, 0, 0, 0), 0);
        x.box(0, 10, 0);
        check.due("glue on the page", x.glue(1, 0, 0, 0), 0);
        x.box(0, 10, 0);
        check.due("glue past the page", x.glue(1, 0, 0, 0), 1);
        check.due("its break", x.page(0, 1), 2);
        check.due("the item that ended it", x.page(0, 7), 4);
        check.due("glue behind glue", x.glue(100, 0, 0, 0), 1);
        x.box(0, 21, 0);
        check.due("glue past two pages", x.glue(1, 0, 0, 0), 3);
    }

    /** "when width is no size" */
    private static void refusesAWidthThatIsNoSize() {
        check.dueRange("width", -SIZE, SIZE, (x, v) -> x.glue(v, 3, 1, 3));
    }

    /** "stretch or shrink no size or below 0" */
    private static void refusesAStretchThatIsNoSizeOrBelow0() {
        check.dueRange("stretch", 0, SIZE, (x, v) -> x.glue(3, v, 1, 3));
    }

    /** "or order is not 0 .. 3" */
    private static void refusesAnOrderThatIsNot0To3() {
        check.dueRange("order", 0, 3, (x, v) -> x.glue(3, 3, v, 3));
        check.dueRange("order of stretch 0", 0, 3, (x, v) -> x.glue(3, 0, v, 3));
    }

    private static void refusesAShrinkThatIsNoSizeOrBelow0() {
        check.dueRange("shrink", 0, SIZE, (x, v) -> x.glue(3, 3, 1, v));
    }

    private static void takesTheOutermostSizes() {
        PageMaker x = new PageMaker();
        x.frame(SIZE, 0, 0);
        x.box(0, 0, 0);
        for (int i = 0; i < 4; i++) {
            x.glue(-SIZE, SIZE, 3, SIZE);
        }
        check.due("length of great glue", x.open(1), -4L * SIZE);
        check.due("stretch of great glue", x.open(6), 4L * SIZE);
        check.due("shrink of great glue", x.open(9), 4L * SIZE);
        x.glue(SIZE, 0, 0, 0);
        check.due("length with the widest glue", x.open(1), -3L * SIZE);
    }

    private static void takes0() {
        PageMaker x = new PageMaker();
        x.frame(10, 0, 0);
        x.box(0, 10, 0);
        x.glue(0, 0, 0, 0);
        check.due("items", x.items(), 2);
        check.dueOpen(x, 0, 10, 0, 0, 0, 0, 0, 1, 0, 0);
    }
}

/** Promise 2. */
public final class FrameTest {
    private static final int SIZE = 1073741823;
    private static final Check check = new Check();

    public static void main(String[] args) {
        holdsForTheFirstBoxAfterIt();
        changesNoPageThatHasItsFirstBox();
        holdsForAPageWhoseItemsAreThereAlready();
        holdsForABoxThatComesAfterDroppedItems();
        takesTheOutermostSizes();
        refusesWhatIsNoFrame();
        check.end();
    }

    private static void holdsForTheFirstBoxAfterIt() {
        PageMaker x = new PageMaker();
        x.frame(50, 20, 4);
        x.frame(60, 30, 5);
        x.box(0, 10, 9);
        check.due("length", x.open(1), 34);
        check.due("depth", x.open(2), 5);
        x.penalty(-10000);
        check.due("excess", x.page(0, 3), 26);
    }

    private static void changesNoPageThatHasItsFirstBox() {
        PageMaker x = new PageMaker();
        x.frame(50, 20, 4);
        x.box(0, 10, 0);
        x.frame(1000, 500, 0);
        x.box(0, 10, 7);
        check.due("length in the old frame", x.open(1), 33);
        check.due("depth in the old frame", x.open(2), 4);
        x.penalty(-10000);
        check.due("excess in the old frame", x.page(0, 3), 17);
        x.frame(7, 7, 7);
        check.due("where a box of an ended page stands", x.stands(0, 1), 30);
        x.box(0, 7, 7);
        check.due("length in the newest frame", x.open(1), 7);
    }

    private static void holdsForAPageWhoseItemsAreThereAlready() {
        PageMaker x = new PageMaker();
        x.frame(50, 0, 0);
        x.box(0, 50, 0);
        x.penalty(0);
        x.box(0, 20, 3);
        x.frame(100, 40, 2);
        check.due("a break past the height", x.penalty(5), 1);
        check.due("the first page's excess", x.page(0, 3), 0);
        check.due("the next page's first box", x.open(0), 2);
        check.due("the next page's length", x.open(1), 41);
        check.due("the next page's depth", x.open(2), 2);
        x.frame(1, 1, 1);
        x.penalty(-10000);
        check.due("the next page's excess", x.page(1, 3), 59);
    }

    private static void holdsForABoxThatComesAfterDroppedItems() {
        PageMaker x = new PageMaker();
        x.frame(50, 0, 0);
        x.box(0, 10, 0);
        x.penalty(-10000);
        x.frame(80, 15, 0);
        x.kern(7);
        x.glue(1, 1, 1, 1);
        x.box(0, 10, 0);
        check.due("length under the new top", x.open(1), 15);
        x.penalty(-10000);
        check.due("excess of the new height", x.page(1, 3), 65);
    }

    private static void takesTheOutermostSizes() {
        PageMaker x = new PageMaker();
        x.frame(0, -SIZE, 0);
        x.box(0, -SIZE, 0);
        check.due("no top glue", x.open(1), -SIZE);
        x.penalty(-10000);
        check.due("excess of height 0", x.page(0, 3), SIZE);
        x.frame(SIZE, SIZE, SIZE);
        x.box(0, -SIZE, SIZE);
        check.due("length under the greatest top", x.open(1), SIZE);
        check.due("the greatest depth", x.open(2), SIZE);
    }

    private static void refusesWhatIsNoFrame() {
        PageMaker x = new PageMaker();
        x.frame(50, 20, 4);
        int[][] wrong = {
            {-1, 0, 0}, {SIZE + 1, 0, 0}, {Integer.MIN_VALUE, 0, 0}, {Integer.MAX_VALUE, 0, 0},
            {0, SIZE + 1, 0}, {0, -SIZE - 1, 0}, {0, Integer.MIN_VALUE, 0}, {0, Integer.MAX_VALUE, 0},
            {0, 0, -1}, {0, 0, SIZE + 1}, {0, 0, Integer.MIN_VALUE}, {0, 0, Integer.MAX_VALUE}};
        for (int[] w : wrong) {
            check.dueThrow(Check.ARGUMENT, x, "frame(" + w[0] + ", " + w[1] + ", " + w[2] + ")",
                    () -> x.frame(w[0], w[1], w[2]));
        }
        x.box(0, 10, 9);
        check.due("length in the frame before the wrong ones", x.open(1), 25);
        check.due("depth in the frame before the wrong ones", x.open(2), 4);
        x.penalty(-10000);
        check.due("excess in the frame before the wrong ones", x.page(0, 3), 25);
    }
}

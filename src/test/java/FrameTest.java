/** Promise 2: frame. Which frame a page has when is in PageBeginTest. */
public final class FrameTest {
    private static final int SIZE = Check.SIZE;
    private static final Check check = new Check();

    public static void main(String[] args) {
        holdsForTheFirstBoxAfterIt();
        changesNoPageThatHasItsFirstBox();
        changesNoAnswerByItself();
        refusesAHeightThatIsNoSizeOrBelow0();
        refusesATopThatIsNoSize();
        refusesAGreatestDepthThatIsNoSizeOrBelow0();
        takesHeight0();
        takesTop0AndBelow();
        takesGreatestDepth0();
        takesTheGreatestSizes();
        check.end();
    }

    /** "for pages whose first box comes from now on" */
    private static void holdsForTheFirstBoxAfterIt() {
        PageMaker x = new PageMaker();
        x.frame(50, 20, 4);
        x.frame(60, 30, 5);
        x.box(0, 10, 9);
        check.due("length", x.open(1), 34);
        check.due("depth", x.open(2), 5);
        x.penalty(-10000);
        check.due("excess", x.page(0, 3), 26);
        x.box(0, 10, 9);
        check.due("length on the next page", x.open(1), 34);
    }

    private static void changesNoPageThatHasItsFirstBox() {
        PageMaker x = new PageMaker();
        x.frame(50, 20, 4);
        x.box(0, 10, 0);
        x.frame(1000, 500, 0);
        x.box(0, 10, 7);
        check.due("length in the old frame", x.open(1), 33);
        check.due("depth in the old frame", x.open(2), 4);
        x.penalty(-10000);
        check.due("excess in the old frame", x.page(0, 3), 17);
        x.frame(7, 7, 7);
        check.due("excess of an ended page", x.page(0, 3), 17);
        check.due("where a box of an ended page stands", x.stands(0, 1), 30);
        x.box(0, 7, 7);
        check.due("length in the newest frame", x.open(1), 7);
    }

    private static void changesNoAnswerByItself() {
        PageMaker x = Check.withEndedPages();
        String before = Check.stateOf(x);
        x.frame(1, 2, 3);
        check.due("the state after a frame", Check.stateOf(x), before);
    }

    private static void refusesAHeightThatIsNoSizeOrBelow0() {
        check.dueRange("height", 0, SIZE, (x, v) -> x.frame(v, 77, 7));
    }

    private static void refusesATopThatIsNoSize() {
        check.dueRange("top", -SIZE, SIZE, (x, v) -> x.frame(777, v, 7));
    }

    private static void refusesAGreatestDepthThatIsNoSizeOrBelow0() {
        check.dueRange("greatest depth", 0, SIZE, (x, v) -> x.frame(777, 77, v));
    }

    private static void takesHeight0() {
        PageMaker x = new PageMaker();
        x.frame(0, 0, 0);
        x.box(0, 0, 0);
        check.due("a break on a page of height 0", x.penalty(5), 0);
        check.due("its cost", x.open(8), 5);
        x.box(0, 1, 0);
        check.due("a break past it", x.penalty(5), 2);
        check.due("excess of the first page", x.page(0, 3), 0);
        check.due("excess of the second page", x.page(1, 3), -1);
    }

    private static void takesTop0AndBelow() {
        PageMaker x = new PageMaker();
        x.frame(100, 0, 0);
        x.box(0, -1, 0);
        check.due("length below top 0", x.open(1), 0);
        x.penalty(-10000);
        x.frame(100, -5, 0);
        x.box(0, 3, 0);
        check.due("length of a box above a negative top", x.open(1), 3);
        x.penalty(-10000);
        x.box(0, -7, 0);
        check.due("length of a box below a negative top", x.open(1), -5);
        x.penalty(-10000);
        x.frame(100, -SIZE, 0);
        x.box(0, -SIZE, 0);
        check.due("length of the least box at the least top", x.open(1), -SIZE);
    }

    private static void takesGreatestDepth0() {
        PageMaker x = new PageMaker();
        x.frame(100, 0, 0);
        x.box(0, 10, 1);
        check.due("depth", x.open(2), 0);
        check.due("length", x.open(1), 11);
    }

    private static void takesTheGreatestSizes() {
        PageMaker x = new PageMaker();
        x.frame(SIZE, SIZE, SIZE);
        x.box(0, -SIZE, SIZE);
        check.due("length under the greatest top", x.open(1), SIZE);
        check.due("the greatest depth", x.open(2), SIZE);
        x.penalty(-10000);
        check.due("excess of the greatest height", x.page(0, 3), 0);
        check.due("where the box stands", x.stands(0, 0), SIZE);
    }
}

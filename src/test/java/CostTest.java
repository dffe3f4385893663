/** Terms: the cost of a break. */
public final class CostTest {
    private static final Check check = new Check();

    public static void main(String[] args) {
        isAwfulIfTheBadnessIs();
        isThePenaltyIfThatIsMinus10000OrLess();
        isBadnessAndPenaltyBelow10000();
        is100000WithBadness10000();
        check.end();
    }

    /** A frame of 100, a list as long as 100 less e, and a break behind it. */
    private static void dueCost(int e, int stretch, int shrink, int p, long want) {
        PageMaker x = new PageMaker();
        x.frame(100, 0, 0);
        x.box(0, 0, 0);
        x.penalty(10000);
        x.glue(100 - e, stretch, 0, shrink);
        int ended = x.penalty(p);
        String call = "cost with excess " + e + ", stretch " + stretch + ", shrink " + shrink + ", penalty " + p;
        check.due(call, ended == 0 ? x.open(8) : x.page(0, 2), want);
        boolean ends = want == PageMaker.AWFUL || p <= -10000;
        check.due(call + ": pages ended", ended, ends ? 1 : 0);
    }

    /** "AWFUL if the badness is" */
    private static void isAwfulIfTheBadnessIs() {
        int[] penalties = {-100000, -10001, -10000, -9999, 0, 9999};
        for (int p : penalties) {
            dueCost(-1, 0, 0, p, PageMaker.AWFUL);
            dueCost(-11, 50, 10, p, PageMaker.AWFUL);
        }
    }

    /** "else p if p is -10000 or less" */
    private static void isThePenaltyIfThatIsMinus10000OrLess() {
        int[] penalties = {-10000, -10001, -99999, -100000};
        for (int p : penalties) {
            dueCost(100, 100, 0, p, p);
            dueCost(100, 0, 0, p, p);
            dueCost(0, 0, 0, p, p);
            dueCost(-10, 0, 10, p, p);
        }
        dueCost(100, 100, 0, -9999, -9899);
    }

    /** "else the badness and p if the badness is below 10000" */
    private static void isBadnessAndPenaltyBelow10000() {
        dueCost(0, 0, 0, 0, 0);
        dueCost(0, 0, 0, 5, 5);
        dueCost(0, 0, 0, 9999, 9999);
        dueCost(0, 0, 0, -9999, -9999);
        dueCost(100, 100, 0, 0, 100);
        dueCost(100, 100, 0, 50, 150);
        dueCost(100, 100, 0, -100, 0);
        dueCost(100, 100, 0, 9999, 10099);
        dueCost(-10, 0, 10, 7, 107);
        dueCost(-10, 0, 10, -9999, -9899);
        // r is 1290, the greatest that is not above it.
        dueCost(1290, 297, 0, 0, 8189);
        dueCost(1290, 297, 0, 9999, 18188);
    }

    /** "else 100000" */
    private static void is100000WithBadness10000() {
        int[] penalties = {-9999, -1, 0, 1, 9999};
        for (int p : penalties) {
            dueCost(1291, 297, 0, p, 100000);
            dueCost(1, 0, 0, p, 100000);
        }
    }
}

import java.math.BigInteger;

/** Promise 10. */
public final class StandsTest {
    private static final int SIZE = 1073741823;
    private static final Check check = new Check();

    public static void main(String[] args) {
        addsLengthDepthAndHeight();
        stretchesTheGlueOfTheOrderAlone();
        shrinksTheGlue();
        roundsHalvesAwayFromZero();
        roundsToTheNearest();
        shrinksByNoMoreThanTheShrink();
        sharesExactlyBeyondALong();
        refusesWhatIsNoBoxOfThePage();
        check.end();
    }

    private static void addsLengthDepthAndHeight() {
        PageMaker x = new PageMaker();
        x.frame(1000, 30, 5);
        x.box(0, 10, 8);
        x.box(0, 10, 2);
        x.kern(7);
        x.box(0, -4, -3);
        x.box(0, 6, 0);
        x.penalty(-10000);
        check.due("the first box below the top", x.stands(0, 0), 30);
        check.due("below a depth that was cut", x.stands(0, 1), 48);
        check.due("below a kern", x.stands(0, 3), 53);
        check.due("below a negative depth", x.stands(0, 4), 56);
        x.box(0, 40, 0);
        x.penalty(-10000);
        check.due("the first box above the top", x.stands(1, 6), 40);
    }

    private static void stretchesTheGlueOfTheOrderAlone() {
        PageMaker x = new PageMaker();
        x.frame(100, 0, 0);
        x.box(0, 10, 0);
        x.glue(5, 90, 0, 0);
        x.box(0, 10, 0);
        x.glue(5, 1, 2, 0);
        x.box(0, 10, 0);
        x.glue(5, 3, 2, 0);
        x.box(0, 5, 0);
        x.penalty(-10000);
        check.due("excess", x.page(0, 3), 50);
        check.due("above all glue", x.stands(0, 0), 10);
        check.due("below glue of a lower order", x.stands(0, 2), 25);
        check.due("below a quarter, which is 12 and a half", x.stands(0, 4), 40 + 13);
        check.due("below all glue", x.stands(0, 6), 100);
    }

    private static void shrinksTheGlue() {
        PageMaker x = new PageMaker();
        x.frame(44, 0, 0);
        x.box(0, 10, 0);
        x.glue(5, 90, 0, 2);
        x.box(0, 10, 0);
        x.glue(5, 90, 3, 6);
        x.box(0, 10, 0);
        x.glue(5, 0, 0, 0);
        x.box(0, 5, 0);
        x.penalty(-10000);
        check.due("excess", x.page(0, 3), -6);
        check.due("above all glue", x.stands(0, 0), 10);
        check.due("below 2 of 8 times 6, which is 1 and a half", x.stands(0, 2), 25 - 2);
        check.due("below all glue that shrinks", x.stands(0, 4), 40 - 6);
        check.due("below glue that does not", x.stands(0, 6), 44);
    }

    private static void roundsHalvesAwayFromZero() {
        for (int excess = 0; excess <= 20; excess++) {
            PageMaker x = new PageMaker();
            x.frame(excess, 0, 0);
            x.box(0, 0, 0);
            x.glue(0, 1, 1, 0);
            x.box(0, 0, 0);
            x.glue(0, 3, 1, 0);
            x.penalty(-10000);
            check.due("a quarter of " + excess, x.stands(0, 2), (excess + 2) / 4);
            PageMaker y = new PageMaker();
            y.frame(0, 0, 0);
            y.box(0, 0, 0);
            y.glue(0, 0, 0, 10);
            y.box(0, 0, 0);
            y.glue(excess, 0, 0, 30);
            y.penalty(-10000);
            check.due("less a quarter of " + excess, y.stands(0, 2), -((excess + 2) / 4));
        }
    }

    private static void roundsToTheNearest() {
        int[] want = {0, 0, 0, 1, 1, 1};
        for (int part = 0; part <= 5; part++) {
            PageMaker x = new PageMaker();
            x.frame(1, 0, 0);
            x.box(0, 0, 0);
            x.glue(0, part, 0, 0);
            x.box(0, 0, 0);
            x.glue(0, 5 - part, 0, 0);
            x.penalty(-10000);
            check.due(part + " of 5 times 1", x.stands(0, 2), want[part]);
        }
        PageMaker y = new PageMaker();
        y.frame(9, 0, 0);
        y.box(0, 0, 0);
        y.glue(0, 1, 0, 0);
        y.box(0, 0, 0);
        y.penalty(-10000);
        check.due("1 of 1 times 9", y.stands(0, 2), 9);
    }

    private static void shrinksByNoMoreThanTheShrink() {
        PageMaker x = new PageMaker();
        x.frame(0, 0, 0);
        x.box(0, 10, 0);
        x.penalty(10000);
        x.glue(0, 0, 0, 3);
        x.box(0, 10, 0);
        x.penalty(10000);
        x.glue(0, 0, 0, 4);
        x.box(0, 10, 0);
        check.due("pages", x.penalty(0), 1);
        check.due("excess", x.page(0, 3), -30);
        check.due("total", x.page(0, 5), 7);
        check.due("below the first glue", x.stands(0, 3), 20 - 3);
        check.due("below the second glue", x.stands(0, 6), 30 - 7);
        PageMaker y = new PageMaker();
        y.frame(0, 0, 0);
        y.box(0, 10, 0);
        y.penalty(10000);
        y.glue(5, 9, 3, 0);
        y.box(0, 10, 0);
        y.penalty(0);
        check.due("without shrink", y.stands(0, 3), 25);
    }

    private static void sharesExactlyBeyondALong() {
        PageMaker x = new PageMaker();
        x.frame(SIZE, 0, 0);
        int boxes = 100;
        for (int i = 0; i < boxes; i++) {
            x.box(0, -SIZE, 0);
            x.glue(0, SIZE - i, 3, 0);
        }
        x.penalty(-10000);
        BigInteger total = BigInteger.ZERO;
        for (int i = 0; i < boxes; i++) {
            total = total.add(BigInteger.valueOf(SIZE - i));
        }
        BigInteger excess = BigInteger.valueOf(SIZE).multiply(BigInteger.valueOf(boxes));
        check.due("excess", x.page(0, 3), excess.longValueExact());
        check.due("total", x.page(0, 5), total.longValueExact());
        BigInteger part = BigInteger.ZERO;
        for (int i = 0; i < boxes; i++) {
            BigInteger share = part.multiply(excess).shiftLeft(1).add(total).divide(total.shiftLeft(1));
            check.due("box " + i, x.stands(0, 2 * i), share.longValueExact() - (long) SIZE * i);
            part = part.add(BigInteger.valueOf(SIZE - i));
        }
    }

    private static void refusesWhatIsNoBoxOfThePage() {
        PageMaker x = new PageMaker();
        x.frame(100, 0, 0);
        x.penalty(0);
        x.box(0, 1, 0);
        x.glue(0, 0, 0, 0);
        x.kern(0);
        x.penalty(1);
        check.dueThrow(Check.INDEX, x, "stands on the open page", () -> x.stands(0, 1));
        x.box(0, 1, 0);
        x.penalty(-10000);
        x.box(0, 1, 0);
        x.penalty(-10000);
        x.box(0, 1, 0);
        check.due("the last box of the page", x.stands(0, 5), 2);
        check.due("the next page's box", x.stands(1, 7), 1);
        int[][] wrong = {
            {0, 0}, {0, 2}, {0, 3}, {0, 4}, {0, 6}, {0, 7}, {0, 9}, {0, 10}, {0, -1},
            {0, Integer.MIN_VALUE}, {0, Integer.MAX_VALUE}, {1, 1}, {1, 5}, {1, 6}, {1, 8}, {1, 9},
            {2, 9}, {3, 9}, {-1, 1}, {Integer.MIN_VALUE, 1}, {Integer.MAX_VALUE, 1}};
        for (int[] w : wrong) {
            check.dueThrow(Check.INDEX, x, "stands(" + w[0] + ", " + w[1] + ")", () -> x.stands(w[0], w[1]));
        }
    }
}

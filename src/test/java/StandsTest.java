import java.math.BigInteger;

/** Promise 10: stands, and where a box stands. */
public final class StandsTest {
    private static final int SIZE = Check.SIZE;
    private static final Check check = new Check();

    public static void main(String[] args) {
        addsLengthDepthAndHeight();
        standsInTheFrameOfThePage();
        stretchesTheGlueOfTheOrderAlone();
        stretchesTheGlueBeforeItAlone();
        shrinksTheGlue();
        roundsHalvesAwayFrom0();
        roundsToTheNearest();
        hasNoShareWithoutExcess();
        hasNoShareIfTheTotalIs0();
        shrinksByNoMoreThanTheTotal();
        shrinksByAllOfTheTotal();
        sharesBeyondAnInt();
        sharesExactlyBeyondALong();
        shrinksExactlyBeyondALong();
        roundsExactlyCloseToAHalf();
        refusesOtherPages();
        refusesWhatIsNoBox();
        refusesBoxesOfOtherPages();
        refusesWhatIsNoItem();
        check.end();
    }

    private static PageMaker inFrame(int height, int top, int greatest) {
        PageMaker x = new PageMaker();
        x.frame(height, top, greatest);
        return x;
    }

    /** "the length of the list before it, and the depth there, and its height" */
    private static void addsLengthDepthAndHeight() {
        PageMaker x = inFrame(1000, 30, 5);
        x.box(0, 10, 8);
        x.box(0, 10, 2);
        x.kern(7);
        x.box(0, -4, -3);
        x.box(0, 6, 0);
        x.penalty(-10000);
        check.due("the first box below the top", x.stands(0, 0), 30);
        check.due("below a depth that was cut", x.stands(0, 1), 48);
        check.due("below a kern", x.stands(0, 3), 53);
        check.due("below a negative depth", x.stands(0, 4), 56);
        x.box(0, 40, 0);
        x.penalty(-10000);
        check.due("the first box above the top", x.stands(1, 6), 40);
    }

    private static void standsInTheFrameOfThePage() {
        PageMaker x = inFrame(100, 30, 5);
        x.box(0, 10, 8);
        x.frame(500, 60, 1);
        x.box(0, 10, 8);
        x.penalty(10000);
        x.glue(0, 1, 1, 0);
        x.box(0, 0, 0);
        x.penalty(-10000);
        x.frame(7, 7, 7);
        check.due("the first box", x.stands(0, 0), 30);
        check.due("the second box", x.stands(0, 1), 48);
        check.due("the third box, at the end of the page", x.stands(0, 4), 100);
    }

    /** "of the glue of the list before it the stretch of the order .., times the excess, .. divided by the total" */
    private static void stretchesTheGlueOfTheOrderAlone() {
        PageMaker x = inFrame(100, 0, 0);
        x.box(0, 10, 0);
        x.glue(5, 90, 0, 0);
        x.box(0, 10, 0);
        x.glue(5, 1, 2, 0);
        x.box(0, 10, 0);
        x.glue(5, 3, 2, 0);
        x.box(0, 5, 0);
        x.penalty(-10000);
        check.due("excess", x.page(0, 3), 50);
        check.due("above all glue", x.stands(0, 0), 10);
        check.due("below glue of a lower order", x.stands(0, 2), 25);
        check.due("below a quarter, which is 12 and a half", x.stands(0, 4), 40 + 13);
        check.due("below all glue", x.stands(0, 6), 100);
    }

    private static void stretchesTheGlueBeforeItAlone() {
        for (int order = 0; order < 4; order++) {
            PageMaker x = inFrame(100, 0, 0);
            x.glue(9, 9, order, 9);
            x.box(0, 0, 0);
            x.glue(0, 20, order, 0);
            x.box(0, 0, 0);
            x.glue(0, 30, order, 0);
            x.box(0, 0, 0);
            x.glue(0, 50, order, 0);
            x.penalty(-10000);
            check.due("before all glue of order " + order, x.stands(0, 1), 0);
            check.due("behind 20 of 100", x.stands(0, 3), 20);
            check.due("behind 50 of 100", x.stands(0, 5), 50);
        }
    }

    /** "(or the shrink)" */
    private static void shrinksTheGlue() {
        PageMaker x = inFrame(44, 0, 0);
        x.box(0, 10, 0);
        x.glue(5, 90, 0, 2);
        x.box(0, 10, 0);
        x.glue(5, 90, 3, 6);
        x.box(0, 10, 0);
        x.glue(5, 0, 0, 0);
        x.box(0, 5, 0);
        x.penalty(-10000);
        check.due("excess", x.page(0, 3), -6);
        check.due("above all glue", x.stands(0, 0), 10);
        check.due("below 2 of 8 times 6, which is 1 and a half", x.stands(0, 2), 25 - 2);
        check.due("below all glue that shrinks", x.stands(0, 4), 40 - 6);
        check.due("below glue that does not", x.stands(0, 6), 44);
    }

    /** "rounded to the nearest integer, halves away from 0" */
    private static void roundsHalvesAwayFrom0() {
        for (int excess = 0; excess <= 20; excess++) {
            PageMaker x = inFrame(excess, 0, 0);
            x.box(0, 0, 0);
            x.glue(0, 1, 1, 0);
            x.box(0, 0, 0);
            x.glue(0, 3, 1, 0);
            x.penalty(-10000);
            check.due("a quarter of " + excess, x.stands(0, 2), (excess + 2) / 4);
            PageMaker y = inFrame(0, 0, 0);
            y.box(0, 0, 0);
            y.glue(0, 0, 0, 10);
            y.box(0, 0, 0);
            y.glue(excess, 0, 0, 30);
            y.penalty(-10000);
            check.due("less a quarter of " + excess, y.stands(0, 2), -((excess + 2) / 4));
        }
    }

    private static void roundsToTheNearest() {
        int[] want = {0, 0, 0, 1, 1, 1};
        for (int part = 0; part <= 5; part++) {
            PageMaker x = inFrame(1, 0, 0);
            x.box(0, 0, 0);
            x.glue(0, part, 0, 0);
            x.box(0, 0, 0);
            x.glue(0, 5 - part, 0, 0);
            x.penalty(-10000);
            check.due(part + " of 5 times 1", x.stands(0, 2), want[part]);
            PageMaker y = inFrame(0, 0, 0);
            y.box(0, 0, 0);
            y.glue(0, 0, 0, part);
            y.box(0, 0, 0);
            y.glue(1, 0, 0, 5 - part);
            y.penalty(-10000);
            check.due(part + " of 5 times less 1", y.stands(0, 2), -want[part]);
        }
        PageMaker z = inFrame(9, 0, 0);
        z.box(0, 0, 0);
        z.glue(0, 1, 0, 0);
        z.box(0, 0, 0);
        z.penalty(-10000);
        check.due("1 of 1 times 9", z.stands(0, 2), 9);
    }

    private static void hasNoShareWithoutExcess() {
        PageMaker x = inFrame(30, 0, 0);
        x.box(0, 10, 0);
        x.glue(10, 5, 0, 5);
        x.glue(0, 5, 3, 5);
        x.box(0, 10, 0);
        x.penalty(-10000);
        check.due("below glue on a full page", x.stands(0, 3), 30);
    }

    /** "0 if the total is 0" */
    private static void hasNoShareIfTheTotalIs0() {
        PageMaker x = inFrame(100, 0, 0);
        x.box(0, 10, 0);
        x.glue(5, 0, 3, 9);
        x.box(0, 10, 0);
        x.penalty(-10000);
        check.due("excess", x.page(0, 3), 75);
        check.due("below glue without stretch", x.stands(0, 2), 25);
        PageMaker y = inFrame(0, 0, 0);
        y.box(0, 10, 0);
        y.penalty(10000);
        y.glue(5, 9, 3, 0);
        y.box(0, 10, 0);
        y.penalty(0);
        check.due("excess", y.page(0, 3), -25);
        check.due("below glue without shrink", y.stands(0, 3), 25);
    }

    /** "times less the total, if the page must shrink by more" */
    private static void shrinksByNoMoreThanTheTotal() {
        PageMaker x = inFrame(0, 0, 0);
        x.box(0, 10, 0);
        x.penalty(10000);
        x.glue(0, 0, 0, 3);
        x.box(0, 10, 0);
        x.penalty(10000);
        x.glue(0, 0, 0, 4);
        x.box(0, 10, 0);
        check.due("pages", x.penalty(0), 1);
        check.due("excess", x.page(0, 3), -30);
        check.due("total", x.page(0, 5), 7);
        check.due("above all glue", x.stands(0, 0), 10);
        check.due("below the first glue", x.stands(0, 3), 20 - 3);
        check.due("below the second glue", x.stands(0, 6), 30 - 7);
    }

    private static void shrinksByAllOfTheTotal() {
        for (int missing = 9; missing <= 11; missing++) {
            PageMaker x = inFrame(0, 0, 0);
            x.box(0, 0, 0);
            x.penalty(10000);
            x.glue(0, 0, 0, 10);
            x.box(0, missing, 0);
            x.penalty(-10000);
            check.due(missing + " missing by shrink 10", x.stands(0, 3), missing - Math.min(missing, 10));
        }
    }

    private static void sharesBeyondAnInt() {
        PageMaker x = inFrame(SIZE, -SIZE, 0);
        x.box(0, -SIZE, 0);
        x.glue(-SIZE, SIZE, 1, 0);
        x.glue(-SIZE, SIZE, 1, 0);
        x.box(0, SIZE, 0);
        x.glue(-SIZE, SIZE, 1, 0);
        x.penalty(-10000);
        check.due("excess", x.page(0, 3), 4L * SIZE);
        check.due("total", x.page(0, 5), 3L * SIZE);
        // Two thirds of 4 sizes, and 2 sizes less.
        check.due("behind two of three", x.stands(0, 3), 8L * SIZE / 3 - 2L * SIZE);
    }

    private static BigInteger big(long value) {
        return BigInteger.valueOf(value);
    }

    private static BigInteger roundedShare(BigInteger part, BigInteger amount, BigInteger total) {
        return part.multiply(amount).shiftLeft(1).add(total).divide(total.shiftLeft(1));
    }

    private static void sharesExactlyBeyondALong() {
        PageMaker x = inFrame(SIZE, 0, 0);
        int boxes = 100;
        BigInteger total = BigInteger.ZERO;
        for (int i = 0; i < boxes; i++) {
            x.box(0, -SIZE, 0);
            x.glue(0, SIZE - i, 3, 0);
            total = total.add(big(SIZE - i));
        }
        x.penalty(-10000);
        // The top glue makes up for the first box's height.
        BigInteger excess = big(SIZE).multiply(big(boxes));
        check.due("excess", x.page(0, 3), excess.longValueExact());
        check.due("total", x.page(0, 5), total.longValueExact());
        BigInteger part = BigInteger.ZERO;
        for (int i = 0; i < boxes; i++) {
            long share = roundedShare(part, excess, total).longValueExact();
            check.due("box " + i, x.stands(0, 2 * i), share - (long) SIZE * i);
            part = part.add(big(SIZE - i));
        }
    }

    private static void shrinksExactlyBeyondALong() {
        PageMaker x = inFrame(0, 0, 0);
        int boxes = 80;
        BigInteger total = BigInteger.ZERO;
        for (int i = 0; i < boxes; i++) {
            x.box(0, SIZE - 7 * i - 5, 0);
            x.penalty(10000);
            x.glue(0, 0, 0, SIZE - i);
            total = total.add(big(SIZE - i));
        }
        x.penalty(-10000);
        long missing = -x.page(0, 3);
        check.due("cost", x.page(0, 2), -10000);
        check.due("total", x.page(0, 5), total.longValueExact());
        BigInteger part = BigInteger.ZERO;
        long length = 0;
        for (int i = 0; i < boxes; i++) {
            length += SIZE - 7 * i - 5;
            long share = roundedShare(part, big(missing), total).longValueExact();
            check.due("box " + i, x.stands(0, 3 * i), length - share);
            part = part.add(big(SIZE - i));
        }
        check.due("what is missing", missing, length);
    }

    /** Glue in pieces that are sizes. */
    private static void giveGlue(PageMaker x, long sum, boolean stretches) {
        for (long left = sum; left > 0; left -= SIZE) {
            int piece = (int) Math.min(left, SIZE);
            x.glue(0, stretches ? piece : 0, 1, stretches ? 0 : piece);
        }
    }

    private static void giveKern(PageMaker x, long sum, int sign) {
        for (long left = sum; left > 0; left -= SIZE) {
            x.kern(sign * (int) Math.min(left, SIZE));
        }
    }

    /** The share alone, of a box behind a part of the glue of a page that has to give an amount. */
    private static long shareOf(long part, long amount, long total, boolean stretches) {
        PageMaker x = inFrame(0, 0, 0);
        x.box(0, 0, 0);
        x.penalty(10000);
        giveGlue(x, part, stretches);
        x.box(0, 0, 0);
        x.penalty(10000);
        giveGlue(x, total - part, stretches);
        giveKern(x, amount, stretches ? -1 : 1);
        x.penalty(-10000);
        check.due("excess", x.page(0, 3), stretches ? amount : -amount);
        check.due("total", x.page(0, 5), total);
        int box = 2;
        while (Check.standsOrNone(x, 0, box).equals("-")) {
            box++;
        }
        return x.stands(0, box);
    }

    /** Parts for which part * amount / total is an integer and a half, or beside that by 1 / total at most. */
    private static void roundsExactlyCloseToAHalf() {
        long amount = 60L * SIZE + 1234567;
        for (long total = 70L * SIZE - 8; total <= 70L * SIZE; total++) {
            if (!big(amount).gcd(big(total)).equals(BigInteger.ONE)) {
                continue;
            }
            for (long beside = -1; beside <= 1; beside++) {
                BigInteger rest = big(total / 2 + beside);
                BigInteger part = rest.multiply(big(amount).modInverse(big(total))).mod(big(total));
                long want = roundedShare(part, big(amount), big(total)).longValueExact();
                String call = "share " + part + " of " + total + " times " + amount;
                check.due(call, shareOf(part.longValueExact(), amount, total, true), want);
                check.due("less " + call, shareOf(part.longValueExact(), amount, total, false), -want);
            }
        }
    }

    /** Item 1 is the box of page 0, with glue, a kern and a penalty; item 5 its last; 7 is that of page 1; 9 is open. */
    private static PageMaker withTwoPages() {
        PageMaker x = inFrame(100, 0, 0);
        x.penalty(0);
        x.box(0, 1, 0);
        x.glue(0, 0, 0, 0);
        x.kern(0);
        x.penalty(1);
        x.box(0, 1, 0);
        x.penalty(-10000);
        x.box(0, 1, 0);
        x.penalty(-10000);
        x.box(0, 1, 0);
        return x;
    }

    private static void dueRefused(int page, int... items) {
        for (int item : items) {
            check.dueThrow(Check.INDEX, StandsTest::withTwoPages, "stands(" + page + ", " + item + ")",
                    x -> x.stands(page, item));
        }
    }

    /** "when there is no such page" */
    private static void refusesOtherPages() {
        check.due("the last page's box", withTwoPages().stands(1, 7), 1);
        dueRefused(2, 1, 5, 7, 9);
        dueRefused(3, 9);
        dueRefused(-1, 1, 5, 7, 9);
        dueRefused(Integer.MIN_VALUE, 1);
        dueRefused(Integer.MAX_VALUE, 1);
        check.dueThrow(Check.INDEX, Check::withOpenPage, "stands(0, 0) on the open page", x -> x.stands(0, 0));
    }

    /** "or it is no box of it": what was dropped, glue, a kern, a penalty, the item of the break. */
    private static void refusesWhatIsNoBox() {
        check.due("the page's first box", withTwoPages().stands(0, 1), 1);
        check.due("the page's last box", withTwoPages().stands(0, 5), 2);
        dueRefused(0, 0, 2, 3, 4, 6);
        dueRefused(1, 6, 8);
    }

    private static void refusesBoxesOfOtherPages() {
        dueRefused(0, 7, 9);
        dueRefused(1, 1, 5, 9);
        // The box that made the page end, behind its best break.
        check.dueThrow(Check.INDEX, () -> {
            PageMaker x = inFrame(10, 0, 0);
            x.box(0, 10, 0);
            x.glue(0, 0, 0, 0);
            x.box(0, 10, 0);
            x.glue(0, 0, 0, 0);
            return x;
        }, "stands(0, 2) behind the best break", x -> x.stands(0, 2));
    }

    private static void refusesWhatIsNoItem() {
        dueRefused(0, -1, 10, 11, 1999, 2000, Integer.MIN_VALUE, Integer.MAX_VALUE);
        dueRefused(1, -1, 10, 11, 1999, 2000, Integer.MIN_VALUE, Integer.MAX_VALUE);
    }
}

import java.util.function.Supplier;

/**
 * Terms: at most 2000 items. The document promises answers for 512 calls alone, so no promised run
 * comes to this limit; it names the limit all the same, and this is the one test that goes on so far.
 */
public final class LimitTest {
    private static final int MOST_ITEMS = 2000;
    private static final Check check = new Check();

    public static void main(String[] args) {
        answersUpToThe512thCall();
        takes2000Items();
        takesEachKindAsTheLastItem();
        refusesMoreThan2000Items();
        namesTheWrongArgumentFirst();
        answersWithAllItems();
        check.end();
    }

    private static PageMaker withItems(int count) {
        PageMaker x = new PageMaker();
        for (int item = 0; item < count; item++) {
            x.box(item, 1, 0);
        }
        return x;
    }

    private static PageMaker full() {
        return withItems(MOST_ITEMS);
    }

    private static void answersUpToThe512thCall() {
        PageMaker x = new PageMaker();
        for (int call = 1; call < 512; call += 2) {
            check.due("call " + call, x.box(call, 1, 0), call / 2);
            check.due("call " + (call + 1), x.penalty(-10000), call / 2 + 1);
        }
        PageMaker y = withItems(511);
        check.due("items at the 512th call", y.items(), 511);
    }

    /** "ITEMS come in one behind the other, from 0 on, at most 2000" */
    private static void takes2000Items() {
        PageMaker x = new PageMaker();
        for (int item = 0; item < MOST_ITEMS; item++) {
            check.due("box " + item, x.box(item, 1, 0), 0);
        }
        check.due("items", x.items(), MOST_ITEMS);
        check.due("where the last item is", x.where(MOST_ITEMS - 1), PageMaker.NONE);
    }

    private static void takesEachKindAsTheLastItem() {
        PageMaker x = withItems(MOST_ITEMS - 1);
        check.due("glue 1999", x.glue(0, 0, 0, 0), 0);
        check.due("items", x.items(), MOST_ITEMS);
        PageMaker y = withItems(MOST_ITEMS - 1);
        check.due("kern 1999", y.kern(0), 0);
        check.due("items", y.items(), MOST_ITEMS);
        PageMaker z = withItems(MOST_ITEMS - 1);
        check.due("penalty 1999", z.penalty(-10000), 1);
        check.due("items", z.items(), MOST_ITEMS);
    }

    /** "UnsupportedOperationException when there are 2000 items" */
    private static void refusesMoreThan2000Items() {
        Supplier<PageMaker> full = LimitTest::full;
        check.dueThrow(Check.UNSUPPORTED, full, "box 2000", x -> x.box(0, 0, 0));
        check.dueThrow(Check.UNSUPPORTED, full, "glue 2000", x -> x.glue(0, 0, 0, 0));
        check.dueThrow(Check.UNSUPPORTED, full, "kern 2000", x -> x.kern(0));
        check.dueThrow(Check.UNSUPPORTED, full, "penalty 2000", x -> x.penalty(0));
        check.dueThrow(Check.UNSUPPORTED, full, "a forcing penalty 2000", x -> x.penalty(-10000));
    }

    /** "where several exceptions that a call names fit, it is the one that it names first" */
    private static void namesTheWrongArgumentFirst() {
        Supplier<PageMaker> full = LimitTest::full;
        check.dueThrow(Check.ARGUMENT, full, "wrong tag 2000", x -> x.box(-1, 0, 0));
        check.dueThrow(Check.ARGUMENT, full, "wrong height 2000", x -> x.box(0, Check.SIZE + 1, 0));
        check.dueThrow(Check.ARGUMENT, full, "wrong depth 2000", x -> x.box(0, 0, -Check.SIZE - 1));
        check.dueThrow(Check.ARGUMENT, full, "wrong width 2000", x -> x.glue(Check.SIZE + 1, 0, 0, 0));
        check.dueThrow(Check.ARGUMENT, full, "wrong stretch 2000", x -> x.glue(0, -1, 0, 0));
        check.dueThrow(Check.ARGUMENT, full, "wrong order 2000", x -> x.glue(0, 0, 4, 0));
        check.dueThrow(Check.ARGUMENT, full, "wrong shrink 2000", x -> x.glue(0, 0, 0, -1));
        check.dueThrow(Check.ARGUMENT, full, "wrong kern 2000", x -> x.kern(Check.SIZE + 1));
        check.dueThrow(Check.ARGUMENT, full, "wrong penalty 2000", x -> x.penalty(100001));
        check.dueThrow(Check.ARGUMENT, full, "wrong frame at 2000", x -> x.frame(-1, 0, 0));
    }

    /** One break past the page, at the last item, ends page behind page over all items before it. */
    private static void answersWithAllItems() {
        int boxes = 666;
        PageMaker x = new PageMaker();
        x.frame(20 * boxes, 0, 0);
        for (int i = 0; i < boxes; i++) {
            x.box(0, 20, 0);
            x.glue(0, 1, 1, 0);
            x.penalty(-5000 + i);
        }
        x.box(0, 20 * boxes + 1, 0);
        check.due("pages that the last item ends", x.penalty(0), boxes + 1);
        check.due("items", x.items(), MOST_ITEMS);
        for (int page = 0; page <= boxes; page++) {
            check.due("first box of page " + page, x.page(page, 0), 3 * page);
            check.due("what ended page " + page, x.page(page, 7), 3 * boxes + 1);
        }
    }
}

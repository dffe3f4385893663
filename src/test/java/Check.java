import java.util.List;
import java.util.function.Consumer;
import java.util.function.ObjIntConsumer;
import java.util.function.Supplier;

/** Counts and prints the answers that are not as due; a test ends with exit code 1 if there was one. */
final class Check {
    static final int SIZE = 1073741823;
    static final Class<?> ARGUMENT = IllegalArgumentException.class;
    static final Class<?> UNSUPPORTED = UnsupportedOperationException.class;
    static final Class<?> INDEX = IndexOutOfBoundsException.class;

    private static final int MOST_ITEMS = 2000;

    private int wrong = 0;

    void due(String call, long got, long want) {
        if (got != want) {
            tell(call + " answered " + got + ", due is " + want);
        }
    }

    void due(String call, String got, String want) {
        if (!got.equals(want)) {
            tell(call + " answered " + got + ", due is " + want);
        }
    }

    void dueOpen(PageMaker x, long... want) {
        for (int what = 0; what < want.length; what++) {
            due("open(" + what + ")", x.open(what), want[what]);
        }
    }

    void duePage(PageMaker x, int page, long... want) {
        for (int what = 0; what < want.length; what++) {
            due("page(" + page + ", " + what + ")", x.page(page, what), want[what]);
        }
    }

    void dueWhere(PageMaker x, int... want) {
        for (int item = 0; item < want.length; item++) {
            due("where(" + item + ")", x.where(item), want[item]);
        }
    }

    /**
     * A call that is refused, and that changes nothing: the object answers as one does that was never
     * asked, at once and when more items come. Each call has objects of its own, since nothing is
     * promised beyond an object's 512th call.
     */
    void dueThrow(Class<?> want, Supplier<PageMaker> make, String call, Consumer<PageMaker> run) {
        PageMaker x = make.get();
        PageMaker untouched = make.get();
        dueClass(want, call, thrownBy(x, run));
        due(call + " that throws leaves", stateOf(x), stateOf(untouched));
        if (untouched.items() < MOST_ITEMS) {
            goOn(x);
            goOn(untouched);
            due(call + " that throws leaves for later", stateOf(x), stateOf(untouched));
        }
    }

    /** The last values that are let in and the first ones that are refused, of an argument of a call. */
    void dueRange(String argument, int least, int greatest, ObjIntConsumer<PageMaker> call) {
        for (Supplier<PageMaker> make : STATES) {
            for (int value : new int[] {least, least + 1, greatest - 1, greatest}) {
                RuntimeException thrown = thrownBy(make.get(), x -> call.accept(x, value));
                if (thrown != null) {
                    tell(argument + " " + value + " is refused with " + thrown);
                }
            }
            for (long value : new long[] {Integer.MIN_VALUE, least - 1L, greatest + 1L, Integer.MAX_VALUE}) {
                if (value == (int) value && (value < least || value > greatest)) {
                    dueThrow(ARGUMENT, make, argument + " " + value, x -> call.accept(x, (int) value));
                }
            }
        }
    }

    /** A new object; one with an open page; one with pages that have ended and items dropped. */
    static final List<Supplier<PageMaker>> STATES = List.of(PageMaker::new, Check::withOpenPage, Check::withEndedPages);

    static PageMaker withOpenPage() {
        PageMaker x = new PageMaker();
        x.frame(40, 12, 3);
        x.box(1, 10, 4);
        x.glue(2, 3, 0, 1);
        x.box(2, 10, 1);
        x.penalty(50);
        x.kern(1);
        return x;
    }

    static PageMaker withEndedPages() {
        PageMaker x = withOpenPage();
        x.penalty(-10000);
        x.box(3, 30, 2);
        x.glue(4, 1, 1, 0);
        x.penalty(-10000);
        x.glue(5, 0, 0, 0);
        return x;
    }

    static void goOn(PageMaker x) {
        x.box(0, 10, 9);
        x.glue(3, 2, 0, 1);
        x.penalty(-10000);
        x.box(0, 10, 9);
        x.kern(2);
        x.glue(3, 2, 1, 1);
        x.box(0, 10, 9);
        x.penalty(-10000);
        x.box(0, 10, 9);
        x.glue(1, 1, 0, 1);
    }

    private static RuntimeException thrownBy(PageMaker x, Consumer<PageMaker> run) {
        try {
            run.accept(x);
            return null;
        } catch (RuntimeException e) {
            return e;
        }
    }

    /**
     * The very class is due, not one below it, and thrown by the program: the machine's own exceptions
     * are below those of the document, and the library throws some of the document's.
     */
    private void dueClass(Class<?> want, String call, RuntimeException thrown) {
        if (thrown == null) {
            tell(call + " threw nothing, due is " + want);
            return;
        }
        if (thrown.getClass() != want) {
            tell(call + " threw " + thrown.getClass() + ", due is " + want);
        }
        StackTraceElement[] trace = thrown.getStackTrace();
        if (trace.length == 0 || !trace[0].getClassName().startsWith("PageMaker")) {
            tell(call + " let the machine throw");
        }
    }

    void tell(String text) {
        wrong++;
        System.out.println(text);
    }

    void end() {
        if (wrong != 0) {
            System.out.println(wrong + " answers are not as due");
            System.exit(1);
        }
    }

    /** All that a caller can ask, as a text. */
    static String stateOf(PageMaker x) {
        int items = x.items();
        int pages = x.pages();
        StringBuilder text = new StringBuilder();
        text.append("items ").append(items).append(" pages ").append(pages).append(" open");
        for (int what = 0; what < 10; what++) {
            text.append(' ').append(x.open(what));
        }
        for (int page = 0; page < pages; page++) {
            text.append(" page");
            for (int what = 0; what < 8; what++) {
                text.append(' ').append(x.page(page, what));
            }
        }
        text.append(" where");
        for (int item = 0; item < items; item++) {
            int page = x.where(item);
            text.append(' ').append(page);
            if (page != PageMaker.NONE) {
                text.append(':').append(standsOrNone(x, page, item));
            }
        }
        return text.toString();
    }

    static String standsOrNone(PageMaker x, int page, int item) {
        try {
            return Long.toString(x.stands(page, item));
        } catch (IndexOutOfBoundsException e) {
            return "-";
        }
    }
}

/** Counts and prints the answers that are not as due; a test ends with exit code 1 if there was one. */
final class Check {
    static final Class<?> ARGUMENT = IllegalArgumentException.class;
    static final Class<?> UNSUPPORTED = UnsupportedOperationException.class;
    static final Class<?> INDEX = IndexOutOfBoundsException.class;

    private int wrong = 0;

    void due(String call, long got, long want) {
        if (got != want) {
            tell(call + " answered " + got + ", due is " + want);
        }
    }

    void due(String call, String got, String want) {
        if (!got.equals(want)) {
            tell(call + " answered " + got + ", due is " + want);
        }
    }

    /**
     * The very class is due, not one below it, and thrown by the program: the machine's own exceptions
     * are below those of the document, and the library throws some of the document's.
     */
    void dueThrow(Class<?> want, PageMaker maker, String call, Runnable run) {
        String before = stateOf(maker);
        Class<?> got = null;
        try {
            run.run();
        } catch (RuntimeException e) {
            got = e.getClass();
            if (!isThrownByTheProgram(e)) {
                tell(call + " let the machine throw");
            }
        }
        if (got != want) {
            tell(call + " threw " + got + ", due is " + want);
        }
        due(call + " that throws leaves", stateOf(maker), before);
    }

    private static boolean isThrownByTheProgram(RuntimeException e) {
        StackTraceElement[] trace = e.getStackTrace();
        return trace.length > 0 && trace[0].getClassName().equals("PageMaker");
    }

    void tell(String text) {
        wrong++;
        System.out.println(text);
    }

    void end() {
        if (wrong != 0) {
            System.out.println(wrong + " answers are not as due");
            System.exit(1);
        }
    }

    /** All that a caller can ask, as a text. */
    static String stateOf(PageMaker x) {
        StringBuilder text = new StringBuilder();
        text.append("items ").append(x.items()).append(" pages ").append(x.pages()).append(" open");
        for (int what = 0; what < 10; what++) {
            text.append(' ').append(x.open(what));
        }
        for (int page = 0; page < x.pages(); page++) {
            text.append(" page");
            for (int what = 0; what < 8; what++) {
                text.append(' ').append(x.page(page, what));
            }
        }
        text.append(" where");
        for (int item = 0; item < x.items(); item++) {
            text.append(' ').append(x.where(item));
            if (x.where(item) != PageMaker.NONE) {
                text.append(':').append(standsOrNone(x, x.where(item), item));
            }
        }
        return text.toString();
    }

    static String standsOrNone(PageMaker x, int page, int item) {
        try {
            return Long.toString(x.stands(page, item));
        } catch (IndexOutOfBoundsException e) {
            return "-";
        }
    }
}

import java.util.ArrayList;

/**
 * Breaks what comes in one below the other (boxes, glue, kerns and penalties) into pages, each at
 * its best break as soon as nothing better can come, and says where each box stands on its page.
 */
public final class PageMaker {
    public static final int NONE = -1;
    public static final int AWFUL = 1073741823;

    private static final int GREATEST_SIZE = 1073741823;
    private static final int GREATEST_PENALTY = 100000;
    private static final int MOST_ITEMS = 2000;
    private static final int ORDERS = 4;

    private static final int FORBIDDING_PENALTY = 10000;
    private static final int FORCING_PENALTY = -10000;
    private static final int FULL_BADNESS = 10000;
    private static final int COST_OF_FULL_BADNESS = 100000;

    // A page begins behind the first box of the page before it, so there are never more pages than
    // items, and none of them looks at an item twice.
    private static final int MOST_LOOKS = (MOST_ITEMS + 1) * (MOST_ITEMS + 1);

    private final ArrayList<Item> allItems = new ArrayList<>();
    private final ArrayList<EndedPage> endedPages = new ArrayList<>();
    private Frame frameNow = new Frame(42152922, 655360, 262144);
    private OpenPage openPage = new OpenPage(frameNow);

    public PageMaker() {
    }

    public void frame(int height, int top, int greatest) throws IllegalArgumentException {
        if (!isSizeFromZero(height) || !isSize(top) || !isSizeFromZero(greatest)) {
            throw new IllegalArgumentException("a frame needs sizes, its height and greatest depth not below 0");
        }
        frameNow = new Frame(height, top, greatest);
    }

    public int box(int tag, int height, int depth) throws IllegalArgumentException, UnsupportedOperationException {
        if (tag < 0 || !isSize(height) || !isSize(depth)) {
            throw new IllegalArgumentException("a box needs a tag not below 0 and two sizes");
        }
        needRoom();
        return comeIn(new Box(height, depth));
    }

    public int glue(int width, int stretch, int order, int shrink)
            throws IllegalArgumentException, UnsupportedOperationException {
        if (!isSize(width) || !isSizeFromZero(stretch) || !isSizeFromZero(shrink)) {
            throw new IllegalArgumentException("glue needs sizes, its stretch and shrink not below 0");
        }
        if (order < 0 || order >= ORDERS) {
            throw new IllegalArgumentException("the order of glue is 0 to 3");
        }
        needRoom();
        return comeIn(new Glue(width, stretch, order, shrink));
    }

    public int kern(int width) throws IllegalArgumentException, UnsupportedOperationException {
        if (!isSize(width)) {
            throw new IllegalArgumentException("a kern needs a size");
        }
        needRoom();
        return comeIn(new Kern(width));
    }

    public int penalty(int p) throws IllegalArgumentException, UnsupportedOperationException {
        if (p < -GREATEST_PENALTY || p > GREATEST_PENALTY) {
            throw new IllegalArgumentException("a penalty is -100000 to 100000");
        }
        needRoom();
        return comeIn(new Penalty(p));
    }

    public int items() {
        return allItems.size();
    }

    public int pages() {
        return endedPages.size();
    }

    public long page(int page, int what) throws IndexOutOfBoundsException {
        EndedPage ended = endedPage(page);
        switch (what) {
            case 0: return ended.first;
            case 1: return ended.bestItem;
            case 2: return ended.cost;
            case 3: return ended.excess;
            case 4: return ended.order;
            case 5: return ended.total;
            case 6: return ended.badness;
            case 7: return ended.endingItem;
            default: throw new IndexOutOfBoundsException("of a page 0 to 7 can be asked");
        }
    }

    public long stands(int page, int item) throws IndexOutOfBoundsException {
        EndedPage ended = endedPage(page);
        if (isItem(item) && ended.holds(item) && allItems.get(item) instanceof Box box) {
            Totals before = totalsOf(ended.frame, ended.first, item);
            return before.length + before.depth + box.height + ended.shareOf(before);
        }
        throw new IndexOutOfBoundsException("no box of this page");
    }

    public int where(int item) throws IndexOutOfBoundsException {
        if (!isItem(item)) {
            throw new IndexOutOfBoundsException("no such item");
        }
        for (int page = 0; page < endedPages.size(); page++) {
            if (endedPages.get(page).holds(item)) {
                return page;
            }
        }
        return NONE;
    }

    public long open(int what) throws IndexOutOfBoundsException {
        switch (what) {
            case 0: return openPage.first;
            case 1: return openPage.totals.length;
            case 2: return openPage.totals.depth;
            case 3: case 4: case 5: case 6: return openPage.totals.stretch[what - 3];
            case 7: return openPage.bestItem;
            case 8: return openPage.bestCost;
            case 9: return openPage.totals.shrink;
            default: throw new IndexOutOfBoundsException("of the open page 0 to 9 can be asked");
        }
    }

    private static boolean isSize(int value) {
        return value >= -GREATEST_SIZE && value <= GREATEST_SIZE;
    }

    private static boolean isSizeFromZero(int value) {
        return value >= 0 && value <= GREATEST_SIZE;
    }

    private void needRoom() {
        if (allItems.size() >= MOST_ITEMS) {
            throw new UnsupportedOperationException("there are 2000 items");
        }
    }

    private EndedPage endedPage(int page) {
        if (page < 0 || page >= endedPages.size()) {
            throw new IndexOutOfBoundsException("no such page");
        }
        return endedPages.get(page);
    }

    private boolean isItem(int place) {
        return place >= 0 && place < allItems.size();
    }

    private int comeIn(Item item) {
        allItems.add(item);
        lookFrom(allItems.size() - 1);
        return endedPages.size();
    }

    /** Takes the items from a place on to the open page, and back to its best break whenever it ends. */
    private void lookFrom(int start) {
        int place = start;
        for (int looks = 0; looks < MOST_LOOKS && isItem(place); looks++) {
            Item item = allItems.get(place);
            if (breakEndsPage(place, item)) {
                place = endOpenPage();
            } else {
                takeIn(place, item);
                place++;
            }
        }
    }

    private boolean breakEndsPage(int place, Item item) {
        if (!openPage.hasBegun() || !isItem(place - 1)) {
            return false;
        }
        if (item instanceof Penalty penalty) {
            return penalty.p < FORBIDDING_PENALTY
                    && openPage.endsAtBreak(place, openPage.totals.length, penalty.p);
        }
        if (!(item instanceof Glue)) {
            return false;
        }
        Item before = allItems.get(place - 1);
        if (before instanceof Box) {
            return openPage.endsAtBreak(place, openPage.totals.length, 0);
        }
        // Only the glue makes the kern before it a break, and the list up to that is without the kern.
        return before instanceof Kern && openPage.endsAtBreak(place - 1, openPage.lengthBeforeLast, 0);
    }

    private void takeIn(int place, Item item) {
        if (openPage.hasBegun()) {
            openPage.add(item);
        } else if (item instanceof Box box) {
            openPage.begin(place, box, frameNow);
        }
    }

    /** Answers where the next page begins. */
    private int endOpenPage() {
        OpenPage page = openPage;
        endedPages.add(new EndedPage(page, totalsOf(page.frame, page.first, page.bestItem)));
        openPage = new OpenPage(frameNow);
        return page.bestItem;
    }

    private Totals totalsOf(Frame frame, int first, int end) {
        Totals totals = new Totals();
        if (isItem(first) && allItems.get(first) instanceof Box box) {
            totals.addTopGlue(frame, box);
        }
        for (int place = first; place < end && isItem(place); place++) {
            allItems.get(place).addTo(totals, frame);
        }
        return totals;
    }

    private static int badnessOf(long t, long s) {
        if (s <= 0) {
            return FULL_BADNESS;
        }
        long r;
        if (t <= 7230584) {
            r = 297 * t / s;
        } else if (s >= 1663497) {
            r = t / (s / 297);
        } else {
            r = t;
        }
        return r > 1290 ? FULL_BADNESS : (int) ((r * r * r + 131072) / 262144);
    }

    private static int costOf(int badness, int p) {
        if (badness == AWFUL) {
            return AWFUL;
        }
        if (p <= FORCING_PENALTY) {
            return p;
        }
        return badness < FULL_BADNESS ? badness + p : COST_OF_FULL_BADNESS;
    }

    /**
     * part * amount / total to the nearest integer, halves up; none of them is negative, and part is
     * at most total. The product of two sums of sizes does not fit a long (2000 items make them some
     * 2^42 each), so the amount is taken in digits of 16 bits, as in division on paper.
     */
    private static long proportion(long part, long amount, long total) {
        if (total <= 0) {
            return 0;
        }
        long quotient = 0;
        long rest = 0;
        for (int shift = 48; shift >= 0; shift -= 16) {
            long dividend = (rest << 16) + part * ((amount >>> shift) & 65535);
            quotient = (quotient << 16) + dividend / total;
            rest = dividend % total;
        }
        return 2 * rest >= total ? quotient + 1 : quotient;
    }

    private static final class Frame {
        final int height;
        final int top;
        final int greatest;

        Frame(int height, int top, int greatest) {
            this.height = height;
            this.top = top;
            this.greatest = greatest;
        }
    }

    private abstract static class Item {
        abstract void addTo(Totals totals, Frame frame);
    }

    /** Without its tag, which no call ever answers. */
    private static final class Box extends Item {
        final int height;
        final int depth;

        Box(int height, int depth) {
            this.height = height;
            this.depth = depth;
        }

        @Override
        void addTo(Totals totals, Frame frame) {
            totals.length += totals.depth + height;
            totals.depth = Math.min(depth, frame.greatest);
            totals.length += depth - totals.depth;
        }
    }

    private static final class Glue extends Item {
        final int width;
        final int stretch;
        final int order;
        final int shrink;

        Glue(int width, int stretch, int order, int shrink) {
            this.width = width;
            this.stretch = stretch;
            this.order = order;
            this.shrink = shrink;
        }

        @Override
        void addTo(Totals totals, Frame frame) {
            totals.addSpace(width);
            totals.shrink += shrink;
            if (order >= 0 && order < ORDERS) {
                totals.stretch[order] += stretch;
            }
        }
    }

    private static final class Kern extends Item {
        final int width;

        Kern(int width) {
            this.width = width;
        }

        @Override
        void addTo(Totals totals, Frame frame) {
            totals.addSpace(width);
        }
    }

    private static final class Penalty extends Item {
        final int p;

        Penalty(int p) {
            this.p = p;
        }

        @Override
        void addTo(Totals totals, Frame frame) {
        }
    }

    /** What the items of a list sum up to. */
    private static final class Totals {
        final long[] stretch = new long[ORDERS];
        long length = 0;
        long depth = 0;
        long shrink = 0;

        void addTopGlue(Frame frame, Box first) {
            addSpace(Math.max((long) frame.top - first.height, 0L));
        }

        void addSpace(long width) {
            length += depth + width;
            depth = 0;
        }

        int greatestOrder() {
            for (int order = ORDERS - 1; order > 0; order--) {
                if (stretch[order] > 0) {
                    return order;
                }
            }
            return 0;
        }

        int badnessOfExcess(long excess) {
            if (excess > 0) {
                return greatestOrder() > 0 ? 0 : badnessOf(excess, stretch[0]);
            }
            if (excess == 0) {
                return 0;
            }
            return -excess > shrink ? AWFUL : badnessOf(-excess, shrink);
        }
    }

    private static final class OpenPage {
        final Totals totals = new Totals();
        Frame frame;
        int first = NONE;
        // A kern is found to be a break only when it has been added already.
        long lengthBeforeLast = 0;
        int bestItem = NONE;
        int bestCost = AWFUL;
        int bestBadness = AWFUL;
        int endingItem = NONE;

        /** The frame stands in, so that there always is one, until the first box brings the page's own. */
        OpenPage(Frame frame) {
            this.frame = frame;
        }

        boolean hasBegun() {
            return first != NONE;
        }

        void begin(int place, Box box, Frame frameThen) {
            first = place;
            frame = frameThen;
            totals.addTopGlue(frame, box);
            add(box);
        }

        void add(Item item) {
            lengthBeforeLast = totals.length;
            item.addTo(totals, frame);
        }

        /** Looks at a break: whether it ends the page. */
        boolean endsAtBreak(int place, long length, int p) {
            int badness = totals.badnessOfExcess(frame.height - length);
            int cost = costOf(badness, p);
            if (cost <= bestCost) {
                bestItem = place;
                bestCost = cost;
                bestBadness = badness;
            }
            if (cost != AWFUL && p > FORCING_PENALTY) {
                return false;
            }
            endingItem = place;
            return true;
        }
    }

    private static final class EndedPage {
        final Frame frame;
        final int first;
        final int bestItem;
        final int cost;
        final int badness;
        final int endingItem;
        final long excess;
        final int order;
        final long total;

        EndedPage(OpenPage page, Totals list) {
            frame = page.frame;
            first = page.first;
            bestItem = page.bestItem;
            cost = page.bestCost;
            badness = page.bestBadness;
            endingItem = page.endingItem;
            excess = page.frame.height - list.length;
            order = excess > 0 ? list.greatestOrder() : 0;
            if (excess > 0) {
                total = list.stretch[order];
            } else {
                total = excess < 0 ? list.shrink : 0;
            }
        }

        boolean holds(int item) {
            return item >= first && item < bestItem;
        }

        long shareOf(Totals before) {
            if (excess > 0) {
                return proportion(before.stretch[order], excess, total);
            }
            return -proportion(before.shrink, Math.min(-excess, total), total);
        }
    }
}

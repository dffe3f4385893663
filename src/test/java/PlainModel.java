import java.math.BigInteger;
import java.util.ArrayList;
import java.util.List;

/**
 * The document's terms once more, as slowly and plainly as can be: every list is summed up anew for
 * every break, and the shares are those of BigInteger. Arguments are right ones.
 */
final class PlainModel {
    enum Kind { BOX, GLUE, KERN, PENALTY }

    record Item(Kind kind, int size, int depth, int stretch, int order, int shrink) { }

    record Frame(int height, int top, int greatest) { }

    record Sums(BigInteger length, BigInteger depth, BigInteger[] stretch, BigInteger shrink) { }

    record Page(Frame frame, int first, int best, long cost, long badness, int ending) { }

    final List<Item> items = new ArrayList<>();
    final List<Page> pages = new ArrayList<>();
    private Frame frame = new Frame(42152922, 655360, 262144);
    private Frame openFrame = null;
    private int start = 0;
    int openBest;
    long openCost;

    PlainModel() {
        forgetBest();
    }

    void frame(int height, int top, int greatest) {
        frame = new Frame(height, top, greatest);
    }

    int comeIn(Item item) {
        items.add(item);
        while (openPageEnds()) {
            openFrame = null;
        }
        return pages.size();
    }

    int openFirst() {
        for (int i = start; i < items.size(); i++) {
            if (items.get(i).kind == Kind.BOX) {
                return i;
            }
        }
        return -1;
    }

    Sums openSums() {
        return openFirst() < 0 ? sums(frame, 0, 0) : sums(openFrame, openFirst(), items.size());
    }

    private void forgetBest() {
        openBest = -1;
        openCost = 1073741823;
    }

    private boolean openPageEnds() {
        forgetBest();
        int first = openFirst();
        if (first < 0) {
            return false;
        }
        if (openFrame == null) {
            openFrame = frame;
        }
        long bestBadness = 0;
        for (int i = first + 1; i < items.size(); i++) {
            if (!isBreak(i)) {
                continue;
            }
            int p = items.get(i).kind == Kind.PENALTY ? items.get(i).size : 0;
            long badness = badness(sums(openFrame, first, i), openFrame.height);
            long cost = cost(badness, p);
            if (cost <= openCost) {
                openBest = i;
                openCost = cost;
                bestBadness = badness;
            }
            if (cost == 1073741823 || p <= -10000) {
                pages.add(new Page(openFrame, first, openBest, openCost, bestBadness, i));
                start = openBest;
                return true;
            }
        }
        return false;
    }

    private boolean isBreak(int i) {
        return switch (items.get(i).kind) {
            case BOX -> false;
            case GLUE -> items.get(i - 1).kind == Kind.BOX;
            case KERN -> i + 1 < items.size() && items.get(i + 1).kind == Kind.GLUE;
            case PENALTY -> items.get(i).size < 10000;
        };
    }

    Sums sums(Frame f, int first, int end) {
        BigInteger length = BigInteger.ZERO;
        BigInteger depth = BigInteger.ZERO;
        BigInteger shrink = BigInteger.ZERO;
        BigInteger[] stretch = {BigInteger.ZERO, BigInteger.ZERO, BigInteger.ZERO, BigInteger.ZERO};
        if (first < items.size() && items.get(first).kind == Kind.BOX) {
            length = big((long) f.top - items.get(first).size).max(BigInteger.ZERO);
        }
        for (int i = first; i < end; i++) {
            Item item = items.get(i);
            if (item.kind == Kind.PENALTY) {
                continue;
            }
            length = length.add(depth).add(big(item.size));
            depth = BigInteger.ZERO;
            if (item.kind == Kind.BOX) {
                depth = big(item.depth);
                BigInteger above = depth.subtract(big(f.greatest));
                if (above.signum() > 0) {
                    length = length.add(above);
                    depth = big(f.greatest);
                }
            }
            if (item.kind == Kind.GLUE) {
                stretch[item.order] = stretch[item.order].add(big(item.stretch));
                shrink = shrink.add(big(item.shrink));
            }
        }
        return new Sums(length, depth, stretch, shrink);
    }

    private static BigInteger big(long value) {
        return BigInteger.valueOf(value);
    }

    private static long badness(Sums s, int height) {
        BigInteger e = big(height).subtract(s.length);
        if (e.signum() == 0) {
            return 0;
        }
        if (e.signum() > 0) {
            boolean infinite = s.stretch[1].add(s.stretch[2]).add(s.stretch[3]).signum() > 0;
            return infinite ? 0 : badness(e, s.stretch[0]);
        }
        BigInteger missing = e.negate();
        return missing.compareTo(s.shrink) > 0 ? 1073741823 : badness(missing, s.shrink);
    }

    private static long badness(BigInteger t, BigInteger s) {
        if (s.signum() == 0) {
            return 10000;
        }
        BigInteger r = t;
        if (t.compareTo(big(7230584)) <= 0) {
            r = t.multiply(big(297)).divide(s);
        } else if (s.compareTo(big(1663497)) >= 0) {
            r = t.divide(s.divide(big(297)));
        }
        if (r.compareTo(big(1290)) > 0) {
            return 10000;
        }
        return r.pow(3).add(big(131072)).divide(big(262144)).longValueExact();
    }

    private static long cost(long badness, int p) {
        if (badness == 1073741823) {
            return badness;
        }
        if (p <= -10000) {
            return p;
        }
        return badness < 10000 ? badness + p : 100000;
    }

    BigInteger excess(Page page) {
        return big(page.frame.height).subtract(sums(page.frame, page.first, page.best).length);
    }

    int order(Page page) {
        BigInteger[] stretch = sums(page.frame, page.first, page.best).stretch;
        int order = 3;
        while (order > 0 && stretch[order].signum() == 0) {
            order--;
        }
        return excess(page).signum() > 0 ? order : 0;
    }

    BigInteger total(Page page) {
        Sums list = sums(page.frame, page.first, page.best);
        return switch (excess(page).signum()) {
            case 1 -> list.stretch[order(page)];
            case -1 -> list.shrink;
            default -> BigInteger.ZERO;
        };
    }

    int where(int item) {
        for (int i = 0; i < pages.size(); i++) {
            if (item >= pages.get(i).first && item < pages.get(i).best) {
                return i;
            }
        }
        return -1;
    }

    long stands(Page page, int item) {
        Sums before = sums(page.frame, page.first, item);
        return before.length.add(before.depth).add(big(items.get(item).size)).add(share(page, before)).longValueExact();
    }

    private BigInteger share(Page page, Sums before) {
        BigInteger total = total(page);
        BigInteger excess = excess(page);
        if (total.signum() == 0) {
            return BigInteger.ZERO;
        }
        BigInteger part = excess.signum() > 0 ? before.stretch[order(page)] : before.shrink;
        BigInteger product = part.multiply(excess.max(total.negate()));
        BigInteger rounded = product.abs().shiftLeft(1).add(total).divide(total.shiftLeft(1));
        return product.signum() < 0 ? rounded.negate() : rounded;
    }
}

import java.util.Random;

/** All promises: long mixed runs, every answer compared with that of the plain model. */
public final class RandomRunsTest {
    private static final int SIZE = 1073741823;
    private static final int MANNERS = 4;
    private static final int RUNS = 200;
    private static final Check check = new Check();

    private final Random random;
    private final int manner;
    private final LongRun run = new LongRun();
    private final PlainModel model = new PlainModel();
    private String name;

    private RandomRunsTest(int manner, long seed) {
        this.manner = manner;
        random = new Random(seed);
    }

    public static void main(String[] args) {
        int pages = 0;
        for (int manner = 0; manner < MANNERS; manner++) {
            for (int i = 0; i < RUNS; i++) {
                RandomRunsTest test = new RandomRunsTest(manner, 1000L * manner + i);
                test.go(20 + i % 100);
                pages += test.run.ask().pages();
            }
        }
        if (pages < MANNERS * RUNS) {
            check.tell("only " + pages + " pages have ended in all runs");
        }
        check.end();
    }

    private void go(int calls) {
        if (manner != 3) {
            setFrame();
        }
        for (int call = 0; call < calls; call++) {
            name = "manner " + manner + ", call " + call;
            if (random.nextInt(12) == 0) {
                setFrame();
            } else {
                check.due(name + ": pages ended", comeIn(), model.pages.size());
            }
            compareOpen();
            if (call % 7 == 0) {
                comparePages();
            }
        }
        comparePages();
    }

    private void setFrame() {
        int height = manner == 1 ? from0(SIZE) : 20 + random.nextInt(200);
        int top = manner == 1 ? size() : random.nextInt(30) - 5;
        int greatest = manner == 1 ? from0(SIZE) : random.nextInt(5);
        run.frame(height, top, greatest);
        model.frame(height, top, greatest);
    }

    private int from0(int greatest) {
        return random.nextInt(4) == 0 ? greatest : random.nextInt(greatest);
    }

    private int size() {
        return switch (manner) {
            case 1 -> random.nextInt(3) == 0 ? SIZE * (random.nextInt(3) - 1) : random.nextInt(2 * SIZE) - SIZE;
            case 3 -> random.nextInt(9000000) - 1000000;
            default -> random.nextInt(20) - 2;
        };
    }

    private int give() {
        return switch (manner) {
            case 1 -> from0(SIZE);
            case 3 -> random.nextInt(4) == 0 ? 0 : random.nextInt(2000000);
            default -> random.nextInt(3) == 0 ? 0 : random.nextInt(12);
        };
    }

    private int somePenalty() {
        return switch (random.nextInt(8)) {
            case 0 -> 10000;
            case 1 -> manner == 2 ? -9999 + random.nextInt(3) : -10000;
            case 2 -> random.nextInt(200001) - 100000;
            case 3 -> 9999;
            case 4 -> -9999;
            default -> random.nextInt(400) - 200;
        };
    }

    private int comeIn() {
        int kind = random.nextInt(20);
        if (kind < 8) {
            int height = size();
            int depth = manner == 1 ? size() : size() / 3;
            model.comeIn(new PlainModel.Item(PlainModel.Kind.BOX, height, depth, 0, 0, 0));
            return run.box(random.nextInt(Integer.MAX_VALUE), height, depth);
        }
        if (kind < 15) {
            int width = manner == 0 ? random.nextInt(4) : size();
            int stretch = give();
            int order = random.nextInt(3) == 0 ? random.nextInt(4) : 0;
            int shrink = give();
            model.comeIn(new PlainModel.Item(PlainModel.Kind.GLUE, width, 0, stretch, order, shrink));
            return run.glue(width, stretch, order, shrink);
        }
        if (kind < 17) {
            int width = size();
            model.comeIn(new PlainModel.Item(PlainModel.Kind.KERN, width, 0, 0, 0, 0));
            return run.kern(width);
        }
        int p = somePenalty();
        model.comeIn(new PlainModel.Item(PlainModel.Kind.PENALTY, p, 0, 0, 0, 0));
        return run.penalty(p);
    }

    private void compareOpen() {
        check.due(name + ": items", run.ask().items(), model.items.size());
        check.due(name + ": pages", run.ask().pages(), model.pages.size());
        PlainModel.Sums sums = model.openSums();
        boolean none = model.openFirst() < 0;
        check.due(name + ": open(0)", run.ask().open(0), model.openFirst());
        check.due(name + ": open(1)", run.ask().open(1), none ? 0 : sums.length().longValueExact());
        check.due(name + ": open(2)", run.ask().open(2), none ? 0 : sums.depth().longValueExact());
        for (int order = 0; order < 4; order++) {
            check.due(name + ": open(" + (3 + order) + ")", run.ask().open(3 + order), sums.stretch()[order].longValueExact());
        }
        check.due(name + ": open(7)", run.ask().open(7), model.openBest);
        check.due(name + ": open(8)", run.ask().open(8), model.openCost);
        check.due(name + ": open(9)", run.ask().open(9), sums.shrink().longValueExact());
    }

    private void comparePages() {
        for (int i = 0; i < model.pages.size(); i++) {
            PlainModel.Page page = model.pages.get(i);
            long[] want = {page.first(), page.best(), page.cost(), model.excess(page).longValueExact(),
                model.order(page), model.total(page).longValueExact(), page.badness(), page.ending()};
            for (int what = 0; what < want.length; what++) {
                check.due(name + ": page(" + i + ", " + what + ")", run.ask().page(i, what), want[what]);
            }
            for (int item = -1; item <= model.items.size(); item++) {
                check.due(name + ": stands(" + i + ", " + item + ")", Check.standsOrNone(run.ask(), i, item), wantStands(i, item));
            }
        }
        for (int item = 0; item < model.items.size(); item++) {
            check.due(name + ": where(" + item + ")", run.ask().where(item), model.where(item));
        }
    }

    private String wantStands(int page, int item) {
        if (item < 0 || item >= model.items.size() || model.where(item) != page
                || model.items.get(item).kind() != PlainModel.Kind.BOX) {
            return "-";
        }
        return Long.toString(model.stands(model.pages.get(page), item));
    }
}

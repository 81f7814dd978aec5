import java.util.Random;

/** Promises 1 to 18 together: long runs of calls, drawn from a fixed seed, on the class and on the plain model. */
public final class ModelTest {
    private static final long[] EDGES = {
        Long.MIN_VALUE, Integer.MIN_VALUE, -1, 0, 1, 2, 65535, 65536, 65537, Integer.MAX_VALUE, 1L << 32, Long.MAX_VALUE,
    };
    private static final int CALLS = 17;
    /** What an object answers behind these is free. */
    private static final int MOST_CALLS = 512;

    private final Random random;
    private final PanelForms real;
    private final Model model;
    private final int size;
    private int calls;

    private ModelTest(long seed) {
        random = new Random(seed);
        int[] sizes = {3, 12, 60, 300, 65536};
        size = sizes[random.nextInt(sizes.length)];
        long width = random.nextInt(8) == 0 ? edge() : 1 + random.nextInt(size);
        long height = random.nextInt(8) == 0 ? edge() : 1 + random.nextInt(size);
        real = new PanelForms(width, height);
        model = new Model(width, height);
    }

    public static void main(String[] args) {
        for (int seed = 0; seed < 200; seed++) {
            ModelTest one = new ModelTest(seed);
            while (one.calls < MOST_CALLS) {
                one.ask("seed " + seed + " call " + one.calls, one.random.nextInt(10) < 3 ? 3 : one.random.nextInt(CALLS));
            }
        }
        for (int seed = 1000; seed < 1150; seed++) {
            new ModelTest(seed).search("seed " + seed);
        }
        Check.end();
    }

    private long edge() {
        return EDGES[random.nextInt(EDGES.length)];
    }

    private int small(int below) {
        if (random.nextInt(12) == 0) {
            return (int) edge();
        }
        return random.nextInt(below + 1) - (random.nextInt(20) == 0 ? 1 : 0);
    }

    private long place() {
        return random.nextInt(25) == 0 ? edge() : random.nextInt(size / (1 + random.nextInt(8)) + 1);
    }

    private void both(String what, Check.Call onReal, Check.Call onModel) {
        if (calls < MOST_CALLS) {
            calls++;
            Check.same(what, Check.told(onReal), Check.told(onModel));
        }
    }

    /** A run over four boards that fit in some way: here the choice among rows is hard. */
    private void search(String at) {
        for (int b = 0; b < 4; b++) {
            int n = b;
            long x = 1 + random.nextInt(size / 3 + 1);
            long y = 1 + random.nextInt(size / 3 + 1);
            int wanted = random.nextInt(2) == 0 ? 200 : random.nextInt(15);
            both(at + ": board", real::board, model::board);
            both(at + ": corner", () -> Check.one(real.corner(n, 0, y)), () -> Check.one(model.corner(n, 0, y)));
            both(at + ": corner", () -> Check.one(real.corner(n, x, 0)), () -> Check.one(model.corner(n, x, 0)));
            both(at + ": wants", () -> Check.one(real.wants(n, wanted)), () -> Check.one(model.wants(n, wanted)));
        }
        long between = random.nextInt(3) == 0 ? random.nextInt(size / 10 + 1) : 0;
        both(at + ": gap", () -> Check.one(real.gap(between)), () -> Check.one(model.gap(between)));
        for (int nodes = 0; nodes <= 6; nodes += 1 + random.nextInt(2)) {
            compareRun(at, 4, nodes);
        }
        compareRun(at, 3, 8);
    }

    private void ask(String at, int call) {
        if (call < 9) {
            askBoards(at, call);
        } else {
            askCopies(at, call);
        }
    }

    private void askBoards(String at, int call) {
        int n = small(3);
        long x = place();
        long y = place();
        long r = place();
        int side = small(4);
        int wanted = random.nextInt(3) == 0 ? small(201) : small(12);
        String what = at + " on " + n + " " + x + " " + y + " " + r + " " + side + " " + wanted + ": ";
        switch (call) {
            case 0 -> both(what + "board", real::board, model::board);
            case 1 -> both(what + "corner", () -> Check.one(real.corner(n, x, y)), () -> Check.one(model.corner(n, x, y)));
            case 2 -> both(what + "part", () -> Check.one(real.part(n, x, y, r)), () -> Check.one(model.part(n, x, y, r)));
            case 3 -> askCopies(at, 9 + random.nextInt(CALLS - 9));
            case 4 -> both(what + "gap", () -> Check.one(real.gap(x / 8)), () -> Check.one(model.gap(x / 8)));
            case 5 -> both(what + "rail", () -> Check.one(real.rail(side, x / 4)), () -> Check.one(model.rail(side, x / 4)));
            case 6 -> both(what + "wants", () -> Check.one(real.wants(n, wanted)), () -> Check.one(model.wants(n, wanted)));
            case 7 -> both(what + "radius", () -> Check.one(real.radius(r)), () -> Check.one(model.radius(r)));
            default -> askRun(at);
        }
    }

    private void askRun(String at) {
        int kinds = random.nextInt(3) == 0 ? small(5) : 4;
        long nodes = random.nextInt(12) == 0 ? edge() : random.nextInt(8) == 0 ? 8 : random.nextInt(6);
        compareRun(at, kinds, nodes);
    }

    private void compareRun(String at, int kinds, long nodes) {
        both(at + ": run " + kinds + " " + nodes, () -> real.run(kinds, nodes), () -> model.run(kinds, nodes));
        both(at + ": proved", () -> Check.one(real.proved()), () -> Check.one(model.proved()));
        int copies = model.copies();
        for (int n = 0; n < copies; n += 1 + copies / 12) {
            int c = n;
            int what = random.nextInt(6);
            both(at + ": at " + c + " " + what, () -> real.at(c, what), () -> model.at(c, what));
        }
    }

    private void askCopies(String at, int call) {
        int c = small(12);
        int k = small(5);
        int two = small(2);
        boolean on = random.nextInt(3) != 0;
        String what = at + " on " + c + " " + k + " " + two + " " + on + ": ";
        switch (call) {
            case 9 -> both(what + "at", () -> real.at(c, k), () -> model.at(c, k));
            case 10 -> both(what + "proved", () -> Check.one(real.proved()), () -> Check.one(model.proved()));
            case 11 -> both(what + "tab", () -> real.tab(c, k, two), () -> model.tab(c, k, two));
            case 12 -> both(what + "score", () -> real.score(c, two), () -> model.score(c, two));
            case 13 -> both(what + "waste", () -> real.waste(two), () -> model.waste(two));
            case 14 -> both(what + "mill", () -> real.mill(c * 4 + k, two), () -> model.mill(c * 4 + k, two));
            case 15 -> both(what + "bad", () -> Check.one(real.bad(c, on)), () -> Check.one(model.bad(c, on)));
            default -> {
                both(what + "order", () -> real.order(c), () -> model.order(c));
                both(what + "overlaps", () -> Check.one(real.overlaps()), () -> Check.one(model.overlaps()));
            }
        }
    }
}

import java.util.Random;

/** Runs of up to 512 calls, drawn with fixed seeds, each call against the model. */
public final class RandomRunsTest {
    private static final int[] ODD = {
        -1, -2, 16, 31, 32, 33, 64, Integer.MAX_VALUE, Integer.MAX_VALUE - 7, Integer.MIN_VALUE
    };

    private final Random random;
    private final LearningSolver solver = new LearningSolver();
    private final Model model = new Model();
    private final int seed;
    private final int wanted;
    private final int width;
    private int calls = 0;

    private RandomRunsTest(int seed, int wanted, int width) {
        this.seed = seed;
        this.wanted = wanted;
        this.width = width;
        this.random = new Random(seed);
    }

    public static void main(String[] args) {
        for (int seed = 0; seed < 600; seed++) {
            new RandomRunsTest(seed, seed % 10, 1 + seed % 4).run(512);
        }
        for (int seed = 1000; seed < 1040; seed++) {
            new RandomRunsTest(seed, 10 + seed % 4, 1 + seed % 5).run(400);
        }
        for (int seed = 2000; seed < 2012; seed++) {
            new RandomRunsTest(seed, 16, 2 + seed % 3).run(200);
        }
        Check.end();
    }

    private void run(int length) {
        for (int v = 0; v < wanted && random.nextInt(12) != 0; v++) {
            variable();
        }
        while (calls < length) {
            step();
        }
    }

    private void step() {
        int r = random.nextInt(100);
        if (r < 30) {
            clause();
        } else if (r < 36) {
            literal(anyLiteral());
        } else if (r < 39) {
            if (model.variables() < wanted || random.nextInt(40) == 0) {
                variable();
            }
        } else if (r < 58) {
            assume(anyLiteral());
        } else if (r < 70) {
            compare("solve()", Check.of(() -> model.solve()), () -> solver.solve() ? 1 : 0);
            latest();
        } else if (r < 80) {
            int l = anyLiteral();
            compare("must(" + l + ")", Check.of(() -> model.must(l)), () -> solver.must(l));
        } else if (r < 92) {
            ways();
        } else if (r < 99) {
            latest();
        } else if (random.nextInt(4) == 0) {
            clear();
        }
    }

    private void compare(String call, int want, Check.Call got) {
        calls++;
        Check.due("seed " + seed + " call " + calls + " " + call, want, got);
    }

    private int anyLiteral() {
        if (random.nextInt(25) == 0 || model.variables() == 0) {
            return odd();
        }
        return random.nextInt(2 * model.variables());
    }

    private int odd() {
        int i = random.nextInt(ODD.length + 1);
        return i < ODD.length ? ODD[i] : 2 * model.variables();
    }

    private void variable() {
        compare("variable()", Check.of(() -> model.variable()), () -> solver.variable());
    }

    private void literal(int l) {
        compare("literal(" + l + ")", Check.of(() -> model.literal(l)), () -> solver.literal(l));
    }

    private void assume(int l) {
        compare("assume(" + l + ")", Check.of(() -> model.assume(l)), () -> solver.assume(l));
    }

    private void clause() {
        // Mostly clauses wide enough that the run stays solvable for a while.
        int length = random.nextInt(60) == 0 ? 0 : width + random.nextInt(3);
        for (int i = 0; i < length; i++) {
            literal(anyLiteral());
        }
        compare("close()", Check.of(() -> model.close()), () -> solver.close());
    }

    private void ways() {
        int from = random.nextInt(12) == 0 ? odd() : random.nextInt(model.variables() + 1);
        int room = Math.max(0, Math.min(8, model.variables() - from));
        int n = random.nextInt(12) == 0 ? odd() : random.nextInt(room + 2);
        compare("ways(" + from + ", " + n + ")", Check.of(() -> model.ways(from, n)),
            () -> solver.ways(from, n));
    }

    private void latest() {
        compare("blame()", Check.of(() -> model.blame()), () -> solver.blame());
        compare("shown()", Check.of(() -> model.shown()), () -> solver.shown() ? 1 : 0);
        compare("proved()", Check.of(() -> model.proved()), () -> solver.proved() ? 1 : 0);
        for (int v = -1; v <= model.variables(); v++) {
            int u = v;
            compare("least(" + u + ")", Check.of(() -> model.least(u)), () -> solver.least(u));
        }
    }

    private void clear() {
        model.clear();
        solver.clear();
        calls++;
    }
}

import java.util.function.Supplier;

/** Long runs of calls, in which the class and the model must answer the same. */
public final class ModelTest {
    private static final int RUNS = 150;
    private static final int CALLS = 512;
    private static final int[] EDGES = {
        Integer.MIN_VALUE, Integer.MIN_VALUE + 1, -2, -1, 0, 1, 2, 3, 8, 9, Integer.MAX_VALUE,
    };

    private final Check check;
    private final int run;
    private long seed;
    private BottleShip ship = new BottleShip();
    private Model model = new Model();

    private ModelTest(Check check, int run) {
        this.check = check;
        this.run = run;
        this.seed = run * 7919L + 17;
    }

    public static void main(String[] args) {
        Check check = new Check("ModelTest");
        for (int run = 0; run < RUNS; run++) {
            new ModelTest(check, run).go();
        }
        check.end();
    }

    /** A sequence of numbers that is the same in every run of the tests. */
    private int below(int bound) {
        seed = seed * 6364136223846793005L + 1442695040888963407L;
        return (int) ((seed >>> 33) % bound);
    }

    private int from(int least, int most) {
        return least + below(most - least + 1);
    }

    /** Mostly a number between both, sometimes one beside them or far off. */
    private int near(int least, int most) {
        int kind = below(40);
        if (kind == 0) {
            return least - 1;
        }
        if (kind == 1) {
            return most + 1;
        }
        return kind == 2 ? EDGES[below(EDGES.length)] : from(least, most);
    }

    private int someMast() {
        return near(0, Math.max(0, model.count(1) - 1));
    }

    private int someThread() {
        return near(0, Math.max(0, model.count(3) - 1));
    }

    private static String answer(Supplier<Object> call) {
        try {
            return String.valueOf(call.get());
        } catch (RuntimeException e) {
            return e.getClass().getName();
        }
    }

    private void same(String what, Supplier<Object> ofShip, Supplier<Object> ofModel) {
        check.is("run " + run + ", " + what, answer(ofShip), answer(ofModel));
    }

    private void go() {
        build();
        for (int i = 0; i < CALLS / 2; i++) {
            int kind = below(100);
            if (kind < 6) {
                build(below(5));
            } else if (kind < 70) {
                use(below(64));
            } else {
                tell(below(11));
            }
            same("digest after " + i, () -> ship.digest(), () -> model.digest());
        }
    }

    /** A wide bottle or a narrow one, and mostly some masts and threads to begin with. */
    private void build() {
        int neck = from(8, 20);
        int high = from(10, 60);
        int belly = from(20, 90);
        same("setBottle", () -> ship.setBottle(neck, high, belly, 1),
                () -> model.setBottle(neck, high, belly, 1));
        build(1);
        int masts = below(4);
        for (int m = 0; m < masts; m++) {
            build(2);
        }
        for (int t = below(9); t > 0; t--) {
            build(4);
        }
    }

    private void build(int kind) {
        switch (kind) {
            case 0: {
                int a = near(1, 20);
                int b = near(5, 60);
                int c = near(10, 90);
                int d = near(0, 20);
                same("setBottle", () -> ship.setBottle(a, b, c, d), () -> model.setBottle(a, b, c, d));
                break;
            }
            case 1: {
                int a = near(5, 40);
                int b = near(1, 8);
                int c = near(1, 8);
                same("setHull", () -> ship.setHull(a, b, c), () -> model.setHull(a, b, c));
                break;
            }
            case 2: {
                int a = near(0, model.ship(2));
                int b = below(4) == 0 ? near(1, 50) : near(1, 15);
                same("step", () -> ship.step(a, b), () -> model.step(a, b));
                break;
            }
            case 3: {
                int a = someMast();
                int b = near(1, 20);
                same("yard", () -> ship.yard(a, b), () -> model.yard(a, b));
                break;
            }
            default: {
                int a = someMast();
                int b = below(2) == 0 ? -1 : someMast();
                int c = below(2) == 0 ? 9 : near(1, 9);
                same("lead", () -> ship.lead(a, b, c), () -> model.lead(a, b, c));
                break;
            }
        }
    }

    private void use(int kind) {
        if (kind < 6) {
            same("enter", () -> ship.enter(), () -> model.enter());
        } else if (kind < 8) {
            same("leave", () -> ship.leave(), () -> model.leave());
        } else if (kind < 12) {
            int hours = below(2) == 0 ? 1 : near(1, 50);
            same("pass", () -> ship.pass(hours), () -> model.pass(hours));
        } else if (kind < 22) {
            int thread = someThread();
            same("glue " + thread, () -> ship.glue(thread), () -> model.glue(thread));
        } else {
            int thread = someThread();
            same("pull " + thread, () -> ship.pull(thread), () -> model.pull(thread));
        }
    }

    private void tell(int kind) {
        int mast = someMast();
        int thread = someThread();
        int other = someThread();
        int what = near(0, 8);
        switch (kind) {
            case 0: same("cross", () -> ship.cross(thread, other), () -> model.cross(thread, other)); break;
            case 1: same("mast", () -> ship.mast(mast, what), () -> model.mast(mast, what)); break;
            case 2: same("thread", () -> ship.thread(thread, what), () -> model.thread(thread, what)); break;
            case 3: same("ship", () -> ship.ship(what), () -> model.ship(what)); break;
            case 4: same("count", () -> ship.count(what), () -> model.count(what)); break;
            case 5: same("falls", () -> ship.falls(), () -> model.falls()); break;
            case 6: same("mean", () -> ship.mean(), () -> model.mean()); break;
            default: lookAhead(mast, below(20)); break;
        }
    }

    /** The model is slow at these, so they come less often. */
    private void lookAhead(int mast, int kind) {
        if (kind < 4) {
            same("fewest", () -> ship.fewest(), () -> model.fewest());
        } else if (kind < 6) {
            same("first", () -> ship.first(), () -> model.first());
        } else if (kind < 10) {
            same("least", () -> ship.least(mast), () -> model.least(mast));
        }
    }
}

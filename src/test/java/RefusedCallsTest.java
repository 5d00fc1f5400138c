import java.util.ArrayList;
import java.util.List;
import java.util.function.Function;
import java.util.function.Supplier;

/**
 * A method that throws an exception changes nothing: of two ships that are alike one gets a call
 * that is refused, and then both get the same calls, until all is full, and answer the same.
 */
public final class RefusedCallsTest {
    private static final Check check = new Check("RefusedCallsTest");
    private static final int[] EDGES = {
        Integer.MIN_VALUE, -2, -1, 0, 1, 2, 3, 4, 5, 8, 9, 10, 15, 16, 20, 21, 40, 41, 50, 51, 60, 61,
        80, 81, 90, 91, Integer.MAX_VALUE,
    };

    private static final class Call {
        final String name;
        final Function<BottleShip, Object> call;

        Call(String name, Function<BottleShip, Object> call) {
            this.name = name;
            this.call = call;
        }
    }

    public static void main(String[] args) {
        check.sentence("A method that throws an exception changes nothing.");
        List<Supplier<BottleShip>> scenes = List.of(
                BottleShip::new,
                () -> Ships.inside(new BottleShip()),
                () -> Ships.withMasts(10),
                () -> Ships.inside(Ships.withMasts(10, 20)),
                RefusedCallsTest::someThreads,
                () -> Ships.inside(someThreads()),
                Ships::full,
                () -> Ships.inside(Ships.full()),
                RefusedCallsTest::fullAndGlued,
                () -> Ships.falling(new int[] {1, 8, 4}, new int[] {0, 3, 2}));
        List<Call> calls = calls();
        int[] refused = new int[scenes.size()];
        for (int s = 0; s < scenes.size(); s++) {
            for (Call call : calls) {
                if (isRefused(scenes.get(s), call)) {
                    refused[s]++;
                    compare(scenes.get(s), call);
                }
            }
            check.is("refused ones of scene " + s + " are many", refused[s] > 150, true);
        }
        check.end();
    }

    private static BottleShip someThreads() {
        BottleShip x = Ships.withMasts(10, 20, 30);
        x.yard(0, 5);
        x.yard(1, 6);
        x.yard(1, 7);
        x.lead(0, -1, 3);
        x.lead(1, 0, 4);
        x.lead(2, -1, 1);
        Ships.pull(x, 0, 4);
        x.pull(2);
        return x;
    }

    private static BottleShip fullAndGlued() {
        BottleShip x = Ships.full();
        Ships.pull(x, 0, 9);
        Ships.pull(x, 5, 3);
        for (int thread = 0; thread < 8; thread++) {
            x.glue(thread);
        }
        return x;
    }

    private static List<Call> calls() {
        List<Call> calls = new ArrayList<>();
        for (int a : EDGES) {
            calls.add(new Call("setBottle neck " + a, x -> x.setBottle(a, 30, 60, 0)));
            calls.add(new Call("setBottle high " + a, x -> x.setBottle(8, a, 60, 0)));
            calls.add(new Call("setBottle length " + a, x -> x.setBottle(8, 30, a, 0)));
            calls.add(new Call("setBottle putty " + a, x -> x.setBottle(8, 30, 60, a)));
            calls.add(new Call("setHull length " + a, x -> x.setHull(a, 4, 5)));
            calls.add(new Call("setHull height " + a, x -> x.setHull(40, a, 5)));
            calls.add(new Call("setHull width " + a, x -> x.setHull(40, 4, a)));
            calls.add(new Call("step place " + a, x -> x.step(a, 9)));
            calls.add(new Call("step height " + a, x -> x.step(7, a)));
            calls.add(new Call("pull " + a, x -> x.pull(a)));
            calls.add(new Call("glue " + a, x -> x.glue(a)));
            calls.add(new Call("ship " + a, x -> x.ship(a)));
            calls.add(new Call("count " + a, x -> x.count(a)));
            calls.add(new Call("pass " + a, x -> x.pass(a)));
            calls.add(new Call("least " + a, x -> x.least(a)));
        }
        for (int a : new int[] {-2, -1, 0, 1, 2, 3}) {
            for (int b : new int[] {-2, -1, 0, 1, 2, 3, 5, 8, 9, 20, 21}) {
                calls.add(new Call("yard " + a + " " + b, x -> x.yard(a, b)));
                calls.add(new Call("mast " + a + " " + b, x -> x.mast(a, b)));
                calls.add(new Call("thread " + a + " " + b, x -> x.thread(a, b)));
                calls.add(new Call("cross " + a + " " + b, x -> x.cross(a, b)));
                for (int c : new int[] {0, 1, 9, 10}) {
                    calls.add(new Call("lead " + a + " " + b + " " + c, x -> x.lead(a, b, c)));
                }
            }
        }
        return calls;
    }

    private static String answer(BottleShip x, Function<BottleShip, Object> call) {
        try {
            return String.valueOf(call.apply(x));
        } catch (IllegalArgumentException | IllegalStateException | IndexOutOfBoundsException e) {
            return e.getClass().getName();
        }
    }

    private static boolean isRefused(Supplier<BottleShip> scene, Call call) {
        return answer(scene.get(), call.call).startsWith("java.lang.");
    }

    private static void compare(Supplier<BottleShip> scene, Call call) {
        BottleShip plain = scene.get();
        BottleShip refused = scene.get();
        String first = answer(refused, call.call);
        check.is(call.name + ", told then", Told.all(refused), Told.all(plain));
        check.is(call.name + ", refused again", answer(refused, call.call), first);
        check.is(call.name + ", later", later(refused), later(plain));
    }

    /** All that may come, until the ship is full and worn. */
    private static String later(BottleShip x) {
        StringBuilder all = new StringBuilder();
        play(x, all, y -> y.leave());
        for (int i = 0; i < 2; i++) {
            play(x, all, y -> y.setBottle(19, 59, 89, 2));
            play(x, all, y -> y.setHull(39, 3, 4));
        }
        for (int place = 5; place <= 35; place += 10) {
            int at = place;
            play(x, all, y -> y.step(at, 11));
        }
        for (int mast = 0; mast < 3; mast++) {
            for (int yard = 1; yard <= 4; yard++) {
                int m = mast;
                int width = 3 * yard;
                play(x, all, y -> y.yard(m, width));
            }
        }
        for (int thread = 0; thread < 9; thread++) {
            int t = thread;
            play(x, all, y -> y.lead(t % 3, (t + 2) % 4 - 1, 1 + t));
        }
        all.append(Told.all(x)).append('\n');
        pullAll(x, all);
        play(x, all, y -> y.enter());
        pullAll(x, all);
        play(x, all, y -> y.pass(3));
        play(x, all, y -> y.leave());
        pullAll(x, all);
        play(x, all, y -> y.pass(50));
        return all.append(Told.all(x)).toString();
    }

    private static void pullAll(BottleShip x, StringBuilder all) {
        for (int thread = 0; thread < 9; thread++) {
            int t = thread;
            play(x, all, y -> y.pull(t));
            play(x, all, y -> y.glue(t));
            play(x, all, y -> y.pull((t + 1) % 8));
            play(x, all, y -> y.glue(t));
        }
    }

    private static void play(BottleShip x, StringBuilder all, Function<BottleShip, Object> call) {
        all.append(answer(x, call)).append(' ').append(x.digest()).append('\n');
    }
}

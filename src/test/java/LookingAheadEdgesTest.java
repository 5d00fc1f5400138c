import java.math.BigInteger;
import java.util.ArrayList;
import java.util.List;

/** Promises 17 to 19, 21 and 22: every sentence that names an edge. */
public final class LookingAheadEdgesTest {
    private static final Check check = new Check("LookingAheadEdgesTest");

    public static void main(String[] args) {
        fewestZero();
        fewestNone();
        fewestLeastAndMost();
        fewestOneAfterTheOther();
        fewestInBottle();
        fewestRoundabout();
        fitsNoMore();
        firstNone();
        firstSmallest();
        firstOfFewest();
        leastNumbers();
        leastLean();
        leastInBottle();
        nothingIsChanged();
        mean();
        digestOfNew();
        digestWraps();
        check.end();
    }

    /** Each mast has a thread to the bow, of its own number. */
    private static BottleShip raisable(int... places) {
        BottleShip x = Ships.withMasts(places);
        for (int mast = 0; mast < places.length; mast++) {
            x.lead(mast, -1, 5);
        }
        return x;
    }

    private static void fewestZero() {
        check.sentence("fewest: 0 if they are");
        check.is("without masts", new BottleShip().fewest(), 0);
        check.is("without masts in the bottle", Ships.inside(new BottleShip()).fewest(), 0);
        BottleShip x = raisable(10, 20, 30);
        for (int mast = 0; mast < 3; mast++) {
            check.is("not yet", x.fewest() > 0, true);
            Ships.pull(x, mast, 9);
        }
        check.is("three upright ones", x.fewest(), 0);
        x.glue(1);
        check.is("one is held", x.fewest(), 0);
        x.pass(50);
        check.is("hours later", x.fewest(), 0);
    }

    private static void fewestNone() {
        check.sentence("fewest: -1 if there are none");
        BottleShip x = Ships.withMasts(10);
        check.is("no thread", x.fewest(), -1);
        x.lead(0, -1, 5);
        check.is("a loose one", x.fewest(), 9);
        x.glue(0);
        check.is("held and flat", x.fewest(), -1);
        x.glue(0);
        Ships.pull(x, 0, 8);
        x.glue(0);
        check.is("held at 1", x.fewest(), -1);

        BottleShip broken = Ships.falling(1, 0);
        check.is("a broken one", broken.fewest(), -1);
        BottleShip third = raisable(10, 20);
        third.step(30, 9);
        check.is("the third mast has none", third.fewest(), -1);
        third.lead(2, 0, 4);
        check.is("the third mast's one is hindered by a stronger one", third.pull(1), 8);
        check.is("it crosses the one of mast 1", third.fewest(), -1);
        third.lead(2, 1, 4);
        check.is("another one is not", third.fewest() > 0, true);

        BottleShip each = Ships.withMasts(10, 20);
        each.lead(0, 1, 5);
        each.lead(1, 0, 5);
        check.is("each lets the other one down", each.fewest(), -1);
    }

    private static void fewestLeastAndMost() {
        check.sentence("Returns the fewest pulls that are all done, one after the other, behind which all masts are upright");
        BottleShip x = raisable(10, 20, 30);
        int due = 27;
        for (int mast = 0; mast < 3; mast++) {
            for (int pull = 0; pull < 9; pull++) {
                check.is("pulls left", x.fewest(), due);
                Ships.pull(x, mast, 1);
                due--;
            }
        }
        check.is("none left", x.fewest(), 0);

        // Each pull at mast 1 lets mast 0 down, so what mast 0 was raised is lost, as long as it lasts.
        for (int raised = 0; raised <= 9; raised++) {
            BottleShip y = raisable(10, 20);
            y.lead(1, 0, 5);
            Ships.pull(y, 0, raised);
            check.is("mast 0 was raised by " + raised, y.fewest(), 18);
            Ships.pull(y, 1, 9);
            check.is("mast 1 is upright then", y.fewest(), 9);
        }
    }

    private static void fewestOneAfterTheOther() {
        check.sentence("nothing else is done, and no hour goes by");
        BottleShip x = raisable(10, 20);
        x.lead(1, -1, 9);
        check.is("a stronger one of mast 1 hinders the one of mast 0, and is not glued", x.fewest(), -1);
        x.glue(2);
        check.is("mast 1 is held then, and is not let go", x.fewest(), -1);
        x.glue(2);
        Ships.pull(x, 2, 9);
        check.is("mast 1 is upright, and its thread hinders still", x.fewest(), -1);
        x.glue(2);
        check.is("mast 1 is upright and held", x.fewest(), 9);

        BottleShip worn = Ships.withMasts(10, 20);
        worn.lead(0, -1, 1);
        worn.lead(1, -1, 2);
        worn.lead(1, 0, 2);
        check.is("no thread is broken to be out of the way", worn.fewest(), -1);
    }

    private static void fewestInBottle() {
        check.sentence("fewest in the bottle: pulls that are all done");
        for (int high = 12; high <= 14; high++) {
            BottleShip x = new BottleShip();
            x.setBottle(8, high, 60, 0);
            x.step(10, 9);
            x.lead(0, -1, 5);
            check.is("outside a belly of " + high, x.fewest(), 9);
            Ships.inside(x);
            check.is("inside a belly of " + high, x.fewest(), high >= 13 ? 9 : -1);
            check.is("first", x.first(), high >= 13 ? 0 : -1);
        }
    }

    /** In a narrow belly masts must be let down and raised again and again. */
    private static void fewestRoundabout() {
        check.sentence("fewest and first, where the straight way would not fit");
        BottleShip x = new BottleShip();
        x.setBottle(20, 16, 17, 0);
        x.setHull(14, 4, 1);
        int[][] masts = {{11, 7}, {10, 6}, {9, 9}};
        for (int[] m : masts) {
            x.lead(x.step(m[0], m[1]), -1, 9);
        }
        x.lead(1, 0, 9);
        x.lead(0, 2, 9);
        for (int thread : new int[] {0, 2, 0, 0, 2}) {
            Ships.pull(x, thread, 1);
        }
        check.is("outside", x.fewest(), 27);
        Ships.inside(x);
        for (int left = 47; left > 0; left--) {
            check.is("inside", x.fewest(), left);
            check.is("the pull is done", x.pull(x.first()) >= 0, true);
        }
        check.is("all are upright", x.count(2), 3);
        check.is("pulls", x.count(6), 5 + 47);
        check.is("none failed", x.count(7), 0);
    }

    /** A mast that fell ends at 48, and at 47 behind a pull; until then no other pull is done. */
    private static void fitsNoMore() {
        check.sentence("looking ahead from a ship that does not fit");
        for (int length : new int[] {46, 47, 48}) {
            BottleShip x = new BottleShip();
            x.setBottle(20, 60, length, 0);
            x.step(39, 9);
            x.step(20, 2);
            x.lead(0, -1, 1);
            Ships.pull(x, 0, 2);
            Ships.inside(x);
            x.lead(1, -1, 9);
            x.pull(0);
            x.pass(2);
            x.lead(0, -1, 9);
            check.is("it fits a belly of " + length, x.ship(4), length == 48 ? 1 : 0);
            check.is("fewest", x.fewest(), length == 46 ? -1 : 18);
            check.is("first", x.first(), length == 46 ? -1 : length == 47 ? 2 : 1);
            check.is("least", x.least(0), length == 46 ? 9 : 0);
            check.is("least of the other one", x.least(1), length == 46 ? 9 : 0);
        }
    }

    private static void firstNone() {
        check.sentence("first: -1 if there are none, or 0 are needed");
        check.is("without masts", new BottleShip().first(), -1);
        BottleShip x = Ships.withMasts(10, 20);
        check.is("without threads", x.first(), -1);
        x.lead(0, -1, 5);
        check.is("mast 1 has none", x.first(), -1);
        x.lead(1, -1, 5);
        check.is("both have one", x.first(), 0);
        Ships.pull(x, 0, 9);
        check.is("mast 0 is upright", x.first(), 1);
        Ships.pull(x, 1, 8);
        check.is("mast 1 leans 1", x.first(), 1);
        Ships.pull(x, 1, 1);
        check.is("both are upright", x.first(), -1);
    }

    private static void firstSmallest() {
        check.sentence("Returns the thread with the smallest number that can be the first one of such fewest pulls");
        BottleShip x = Ships.withMasts(10, 20);
        x.lead(0, -1, 1);
        x.lead(1, -1, 2);
        x.lead(0, -1, 2);
        x.lead(0, -1, 2);
        check.is("0 is hindered", x.first(), 1);
        x.pull(0);
        check.is("0 is broken", x.first(), 1);
        Ships.pull(x, 1, 9);
        check.is("2 and 3 are alike", x.first(), 2);
        BottleShip last = Ships.withMasts(10, 20);
        for (int thread = 0; thread < 7; thread++) {
            last.lead(0, -1, 1);
        }
        last.lead(0, -1, 2);
        check.is("mast 1 has none", last.first(), -1);
        BottleShip eighth = Ships.withMasts(10);
        for (int thread = 0; thread < 7; thread++) {
            eighth.lead(0, -1, 1);
        }
        eighth.lead(0, -1, 2);
        check.is("the last one of 8", eighth.first(), 7);
        BottleShip order = Ships.withMasts(10, 20);
        order.lead(1, -1, 5);
        order.lead(0, -1, 5);
        order.lead(0, 1, 5);
        check.is("mast 0 lets mast 1 down, and so goes first", order.first(), 1);
        Ships.pull(order, 1, 9);
        check.is("mast 1 is next", order.first(), 0);
    }

    /** Whoever pulls what is told as the first one, needs one pull less each time. */
    private static void firstOfFewest() {
        check.sentence("the first one of such fewest pulls");
        int[][] threads = {
            {0, -1, 1, -1, 2, -1, 2, 1}, {2, 0, 2, 1, 0, 1, 1, -1}, {0, 1, 1, -1, 2, 1, 1, -1},
            {1, 0, 1, 2, 0, -1, 2, 0}, {2, 1, 1, 0, 0, -1, 0, -1},
        };
        for (int[] t : threads) {
            BottleShip x = Ships.withMasts(10, 20, 30);
            for (int i = 0; i < t.length; i += 2) {
                x.lead(t[i], t[i + 1], 5);
            }
            int left = x.fewest();
            check.is("there are some", left >= 27, true);
            for (int pull = 0; pull < left && pull < 200; pull++) {
                check.is("left", x.fewest(), left - pull);
                check.is("the pull is done", x.pull(x.first()) >= 0, true);
            }
            check.is("none left", x.fewest(), 0);
            check.is("all are upright", x.count(2), 3);
        }
    }

    private static void leastNumbers() {
        check.sentence("least: IndexOutOfBoundsException if there is no such mast");
        BottleShip x = Ships.wide();
        for (int masts = 0; masts <= 3; masts++) {
            int there = masts;
            for (int mast : new int[] {-1, there, 3, Integer.MIN_VALUE, Integer.MAX_VALUE}) {
                check.throwsIndex(x, mast + " of " + there, () -> x.least(mast));
            }
            if (masts < 3) {
                x.step(10 * masts, 9);
                check.is("the last one", x.least(masts), 9);
                check.is("the first one", x.least(0), 9);
            }
        }
    }

    private static void leastLean() {
        check.sentence("Returns the least lean that this mast can come to by pulls that are all done");
        for (int lean = 9; lean >= 0; lean--) {
            BottleShip x = raisable(10, 20);
            Ships.pull(x, 0, 9 - lean);
            check.is("from " + lean, x.least(0), 0);
            x.glue(0);
            check.is("held at " + lean, x.least(0), lean);
            check.is("the other one", x.least(1), 0);
        }
        for (int lean = 1; lean <= 8; lean++) {
            check.is("its thread is broken", Ships.falling(lean, 0).least(0), lean);
        }
        BottleShip led = Ships.withMasts(10, 20);
        led.lead(1, 0, 5);
        check.is("a thread that leads to it does not raise it", led.least(0), 9);
        check.is("it raises the other one", led.least(1), 0);
        BottleShip each = Ships.withMasts(10, 20);
        each.lead(0, 1, 5);
        each.lead(1, 0, 5);
        check.is("each alone can be upright", each.least(0), 0);
        check.is("each alone can be upright", each.least(1), 0);
    }

    private static void leastInBottle() {
        check.sentence("least in the bottle: no pull behind which the ship would not fit");
        for (int room = 0; room <= 9; room++) {
            BottleShip x = new BottleShip();
            x.setBottle(8, 6 + room, 60, 2);
            x.step(10, 9);
            x.lead(0, -1, 9);
            Ships.inside(x);
            check.is("room for " + room, x.least(0), 9 - room);
            Ships.pull(x, 0, room);
            check.is("room for no more", x.least(0), 9 - room);
        }
        // Mast 0 ends 39 from the bow; each pull at mast 1 lets it reach 1 further, until it is flat.
        for (int length = 40; length <= 44; length++) {
            BottleShip x = new BottleShip();
            x.setBottle(20, 60, length, 0);
            x.step(35, 9);
            x.step(5, 9);
            x.lead(0, -1, 8);
            x.lead(1, 0, 8);
            Ships.pull(x, 0, 5);
            Ships.inside(x);
            check.is("mast 0 can be raised for each pull", x.least(1), 0);
            x.lead(1, -1, 9);
            check.is("a stronger thread hinders mast 0", x.least(0), 4);
            check.is("so mast 1 can come to", x.least(1), length < 44 ? 48 - length : 0);
        }
    }

    private static void nothingIsChanged() {
        check.sentence("(nothing is changed)");
        BottleShip[] ships = {
            new BottleShip(), Ships.inside(new BottleShip()), Ships.full(), Ships.inside(Ships.full()),
            Ships.falling(new int[] {1, 4, 8}, new int[] {0, 2, 3}), raisable(10, 20, 30),
        };
        for (BottleShip x : ships) {
            long before = x.digest();
            x.fewest();
            check.is("fewest", x.digest(), before);
            x.first();
            check.is("first", x.digest(), before);
            for (int mast = 0; mast < x.count(1); mast++) {
                x.least(mast);
                check.is("least", x.digest(), before);
            }
            x.falls();
            check.is("falls", x.digest(), before);
            x.mean();
            check.is("mean", x.digest(), before);
            check.is("digest", x.digest(), before);
        }
    }

    private static void mean() {
        check.sentence("Returns the mean lean of all masts; 0 if there are none.");
        check.is("none", new BottleShip().mean(), 0.0);
        BottleShip x = raisable(10);
        for (int lean = 9; lean >= 0; lean--) {
            check.is("one mast", x.mean(), (double) lean);
            x.pull(0);
        }
        BottleShip two = raisable(10, 20);
        for (int sum = 18; sum > 0; sum--) {
            check.is("two masts", two.mean(), sum / 2.0);
            two.pull(two.first());
        }
        check.is("two upright ones", two.mean(), 0.0);
        BottleShip three = raisable(10, 20, 30);
        for (int sum = 27; sum > 0; sum--) {
            check.is("three masts", three.mean(), sum / 3.0);
            three.pull(three.first());
        }
        check.is("three upright ones", three.mean(), 0.0);
    }

    private static void digestOfNew() {
        check.sentence("A number d starts with 823");
        check.is("a new object", new BottleShip().digest(), wrapped(numbers(new BottleShip(),
                new int[] {8, 30, 60, 0, 40, 4, 5}, new int[0][])));
        check.is("a new object, as it is written", new BottleShip().digest(),
                DigestTest.sum(0, 0, 0, 0, 0, 0, 0, 0, 5, 4, 40, 1, 1, 0, 8, 30, 60, 0, 40, 4, 5));
    }

    private static void digestWraps() {
        check.sentence("d becomes d * 31 + x, which wraps around as a 64-bit integer");
        int[][] yards = {{3, 4, 5}, {4, 5, 6}, {5, 6, 7}};
        BottleShip x = Ships.full();
        boolean negative = false;
        boolean positive = false;
        for (int pull = 0; pull < 20; pull++) {
            long d = x.digest();
            check.is("as full as may be, pulls " + pull, d,
                    wrapped(numbers(x, new int[] {20, 60, 90, 0, 40, 4, 5}, yards)));
            negative = negative || d < 0;
            positive = positive || d > 0;
            x.pull(pull % 8);
        }
        check.is("some are negative", negative, true);
        check.is("some are positive", positive, true);
    }

    private static List<Integer> numbers(BottleShip x, int[] bottleAndHull, int[][] yards) {
        List<Integer> all = new ArrayList<>();
        for (int what = 0; what < 8; what++) {
            all.add(x.count(what));
        }
        for (int what = 0; what < 6; what++) {
            all.add(x.ship(what));
        }
        for (int number : bottleAndHull) {
            all.add(number);
        }
        for (int mast = 0; mast < yards.length; mast++) {
            for (int what = 0; what < 8; what++) {
                all.add(x.mast(mast, what));
            }
            for (int width : yards[mast]) {
                all.add(width);
            }
        }
        for (int thread = 0; thread < x.count(3); thread++) {
            for (int what = 0; what < 5; what++) {
                all.add(x.thread(thread, what));
            }
        }
        return all;
    }

    /** Without any wrapping until the end: the lowest 64 bits are the same. */
    private static long wrapped(List<Integer> numbers) {
        BigInteger d = BigInteger.valueOf(823);
        for (int x : numbers) {
            d = d.multiply(BigInteger.valueOf(31)).add(BigInteger.valueOf(x));
        }
        return d.longValue();
    }
}

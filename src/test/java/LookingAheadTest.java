/** Promises 17 to 19 and 21: the fewest pulls, the first of them, the least lean, the mean. */
public final class LookingAheadTest {
    private static final Check check = new Check("LookingAheadTest");

    public static void main(String[] args) {
        none();
        oneMast();
        letDown();
        hindered();
        inside();
        firstIsSmallest();
        leastWrong();
        mean();
        check.end();
    }

    private static void ahead(String what, BottleShip x, int fewest, int first, int... least) {
        long before = x.digest();
        check.is(what + ", fewest", x.fewest(), fewest);
        check.is(what + ", first", x.first(), first);
        for (int m = 0; m < least.length; m++) {
            check.is(what + ", least of " + m, x.least(m), least[m]);
        }
        check.is(what + ", nothing is changed", x.digest(), before);
    }

    private static BottleShip withMasts(int... places) {
        BottleShip x = new BottleShip();
        for (int place : places) {
            x.step(place, 9);
        }
        return x;
    }

    private static void none() {
        BottleShip x = new BottleShip();
        ahead("without masts", x, 0, -1);
        x.step(10, 9);
        ahead("without threads", x, -1, -1, 9);
    }

    private static void oneMast() {
        BottleShip x = withMasts(10);
        x.lead(0, -1, 5);
        for (int lean = 9; lean > 0; lean--) {
            ahead("from " + lean, x, lean, 0, 0);
            x.pull(0);
        }
        ahead("upright", x, 0, -1, 0);
        x.glue(0);
        ahead("upright and held", x, 0, -1, 0);

        BottleShip held = withMasts(10, 20);
        held.lead(0, -1, 5);
        held.lead(1, 0, 5);
        held.pull(0);
        held.glue(0);
        ahead("one is held", held, -1, -1, 8, 0);
    }

    private static void letDown() {
        // Mast 1 lets mast 0 down: mast 1 is raised first, then mast 0.
        BottleShip x = withMasts(10, 20);
        x.lead(0, -1, 5);
        x.lead(1, 0, 5);
        ahead("mast 1 first", x, 18, 1, 0, 0);
        for (int i = 0; i < 3; i++) {
            x.pull(0);
        }
        // Three of the pulls of mast 1 undo what was raised.
        ahead("mast 0 was raised too early", x, 18, 1, 0, 0);
        for (int i = 0; i < 6; i++) {
            x.pull(0);
        }
        ahead("mast 0 is upright", x, 18, 1, 0, 0);
        x.glue(0);
        ahead("mast 0 is held", x, 9, 1, 0, 0);

        BottleShip each = withMasts(10, 20);
        each.lead(0, 1, 5);
        each.lead(1, 0, 5);
        ahead("each lets the other one down", each, -1, -1, 0, 0);
        each.lead(0, -1, 5);
        ahead("any thread of a mast lets the others down", each, -1, -1, 0, 0);
    }

    private static void hindered() {
        BottleShip x = withMasts(10, 20);
        x.lead(0, -1, 5);
        x.lead(1, -1, 6);
        ahead("a stronger one hinders", x, -1, -1, 9, 0);
        x.glue(1);
        ahead("a glued one does not, but holds", x, -1, -1, 0, 9);
        x.lead(1, 0, 6);
        x.glue(1);
        x.lead(0, -1, 6);
        ahead("another thread does it", x, 18, 1, 0, 0);
    }

    private static void inside() {
        BottleShip x = new BottleShip();
        x.setBottle(8, 10, 60, 1);
        x.step(10, 9);
        x.lead(0, -1, 5);
        ahead("outside", x, 9, 0, 0);
        x.enter();
        ahead("inside", x, -1, -1, 4);
        x.leave();
        x.setBottle(8, 14, 60, 1);
        x.enter();
        ahead("it just fits", x, 9, 0, 0);

        // Mast 0 may not be let down beyond the end of the belly.
        BottleShip y = new BottleShip();
        y.setBottle(20, 60, 40, 0);
        y.step(35, 9);
        y.step(5, 9);
        y.lead(0, -1, 9);
        y.lead(1, 0, 9);
        for (int i = 0; i < 5; i++) {
            y.pull(0);
        }
        y.enter();
        ahead("mast 0 goes up for each pull that lets it down", y, 22, 0, 0, 0);
        y.pull(0);
        ahead("a pull less", y, 21, 0, 0, 0);
        y.pull(1);
        y.pull(1);
        ahead("at the end of the belly", y, 19, 0, 0, 0);
    }

    private static void firstIsSmallest() {
        BottleShip x = withMasts(10, 20, 30);
        x.lead(2, -1, 5);
        x.lead(1, -1, 5);
        x.lead(0, -1, 5);
        ahead("any can be first", x, 27, 0, 0, 0, 0);
        x.lead(2, 1, 5);
        ahead("any pull of mast 2 can be first", x, 27, 0, 0, 0, 0);
        x.glue(0);
        x.lead(2, 0, 9);
        x.glue(0);
        x.lead(0, -1, 9);
        ahead("the weak ones are hindered", x, -1, -1, 0, 9, 0);
        x.lead(1, -1, 9);
        ahead("mast 2 lets both down", x, 27, 4, 0, 0, 0);
    }

    private static void leastWrong() {
        BottleShip x = new BottleShip();
        check.throwsIndex(x, "least without masts", () -> x.least(0));
        x.step(10, 9);
        for (int mast : new int[] {-1, 1, 3, Integer.MIN_VALUE, Integer.MAX_VALUE}) {
            check.throwsIndex(x, "least " + mast, () -> x.least(mast));
        }
    }

    private static void mean() {
        BottleShip x = new BottleShip();
        check.is("mean without masts", x.mean(), 0.0);
        x.step(10, 9);
        check.is("mean of one", x.mean(), 9.0);
        x.lead(0, -1, 5);
        x.pull(0);
        x.step(20, 9);
        check.is("mean of two", x.mean(), 8.5);
        x.step(30, 9);
        check.is("mean of three", x.mean(), 26.0 / 3.0);
        x.pull(0);
        check.is("mean of three", x.mean(), 25.0 / 3.0);
        x.pull(0);
        check.is("mean of three", x.mean(), 8.0);
    }
}

/** Promises 1 to 8: the bottle, the ship, and how she goes in and out. */
public final class BottleAndShipTest {
    private static final Check check = new Check("BottleAndShipTest");
    private static final int LEAST = Integer.MIN_VALUE;
    private static final int MOST = Integer.MAX_VALUE;

    public static void main(String[] args) {
        newObject();
        setBottle();
        setHull();
        step();
        yard();
        lead();
        enter();
        leave();
        check.end();
    }

    private static BottleShip entered() {
        BottleShip x = new BottleShip();
        check.is("a new ship enters", x.enter(), true);
        return x;
    }

    private static void newObject() {
        BottleShip x = new BottleShip();
        for (int what = 0; what < 8; what++) {
            check.is("new count " + what, x.count(what), 0);
        }
        int[] ship = {5, 4, 40, 1, 1, 0};
        for (int what = 0; what < 6; what++) {
            check.is("new ship " + what, x.ship(what), ship[what]);
        }
        check.is("the first neck", x.setBottle(8, 30, 60, 0), 8);
        check.is("the first length", x.setHull(40, 4, 5), 40);
        check.is("the first bottle and hull in the digest", x.digest(), new BottleShip().digest());
        check.is("new digest", x.digest(), DigestTest.ofNew());
    }

    private static void setBottle() {
        BottleShip x = new BottleShip();
        check.is("setBottle least", x.setBottle(1, 5, 10, 0), 8);
        check.is("setBottle greatest", x.setBottle(20, 60, 90, 20), 1);
        check.is("setBottle again", x.setBottle(7, 31, 32, 3), 20);
        int[][] wrong = {
            {0, 30, 60, 0}, {21, 30, 60, 0}, {8, 4, 60, 0}, {8, 61, 60, 0},
            {8, 30, 9, 0}, {8, 30, 91, 0}, {8, 30, 60, -1}, {8, 30, 60, 21},
            {LEAST, 30, 60, 0}, {MOST, 30, 60, 0}, {8, LEAST, 60, 0}, {8, MOST, 60, 0},
            {8, 30, LEAST, 0}, {8, 30, MOST, 0}, {8, 30, 60, LEAST}, {8, 30, 60, MOST},
        };
        BottleShip inside = entered();
        for (int[] w : wrong) {
            check.throwsArgument(x, "setBottle", () -> x.setBottle(w[0], w[1], w[2], w[3]));
            check.throwsArgument(inside, "setBottle inside", () -> inside.setBottle(w[0], w[1], w[2], w[3]));
        }
        check.throwsState(inside, "setBottle inside", () -> inside.setBottle(8, 30, 60, 0));
        check.is("leave", inside.leave(), true);
        check.is("setBottle outside again", inside.setBottle(9, 30, 60, 0), 8);

        BottleShip y = new BottleShip();
        y.setBottle(4, 30, 60, 0);
        check.is("the neck is too small", y.ship(3), 0);
        y.setBottle(8, 30, 39, 0);
        check.is("the belly is too short", y.ship(4), 0);
        y.setBottle(8, 5, 40, 1);
        check.is("the belly is just enough", y.ship(4), 1);
        y.setBottle(8, 5, 40, 2);
        check.is("the putty is too high", y.ship(4), 0);
    }

    private static void setHull() {
        BottleShip x = new BottleShip();
        check.is("setHull least", x.setHull(5, 1, 1), 40);
        check.is("its breadth", x.ship(0), 1);
        check.is("its top", x.ship(1), 1);
        check.is("its end", x.ship(2), 5);
        check.is("setHull greatest", x.setHull(80, 15, 14), 5);
        check.is("setHull again", x.setHull(80, 14, 15), 80);
        check.is("the breadth", x.ship(0), 15);
        check.is("the top", x.ship(1), 14);
        check.is("the end", x.ship(2), 80);
        BottleShip masted = new BottleShip();
        masted.step(0, 1);
        BottleShip inside = entered();
        int[][] wrong = {
            {4, 4, 5}, {81, 4, 5}, {40, 0, 5}, {40, 16, 5}, {40, 4, 0}, {40, 4, 16},
            {LEAST, 4, 5}, {MOST, 4, 5}, {40, LEAST, 5}, {40, MOST, 5}, {40, 4, LEAST}, {40, 4, MOST},
        };
        for (int[] w : wrong) {
            check.throwsArgument(x, "setHull", () -> x.setHull(w[0], w[1], w[2]));
            check.throwsArgument(masted, "setHull masted", () -> masted.setHull(w[0], w[1], w[2]));
            check.throwsArgument(inside, "setHull inside", () -> inside.setHull(w[0], w[1], w[2]));
        }
        check.throwsState(masted, "setHull masted", () -> masted.setHull(40, 4, 5));
        check.throwsState(inside, "setHull inside", () -> inside.setHull(40, 4, 5));
        inside.leave();
        check.is("setHull outside again", inside.setHull(41, 4, 5), 40);
    }

    private static void step() {
        BottleShip x = new BottleShip();
        check.is("step at the bow", x.step(0, 50), 0);
        check.throwsState(x, "step at the same place", () -> x.step(0, 3));
        check.is("step at the end", x.step(40, 1), 1);
        check.is("a new mast is flat", x.mast(1, 2), 9);
        check.throwsArgument(x, "step", () -> x.step(-1, 5));
        check.throwsArgument(x, "step", () -> x.step(41, 5));
        check.throwsArgument(x, "step", () -> x.step(LEAST, 5));
        check.throwsArgument(x, "step", () -> x.step(MOST, 5));
        check.throwsArgument(x, "step", () -> x.step(7, 0));
        check.throwsArgument(x, "step", () -> x.step(7, 51));
        check.throwsArgument(x, "step", () -> x.step(7, LEAST));
        check.throwsArgument(x, "step", () -> x.step(7, MOST));
        check.throwsArgument(x, "step at the same place", () -> x.step(40, 0));
        check.is("step between", x.step(20, 25), 2);
        check.throwsState(x, "step a fourth mast", () -> x.step(21, 25));
        check.throwsArgument(x, "step a fourth mast", () -> x.step(41, 25));
        BottleShip inside = entered();
        check.throwsState(inside, "step inside", () -> inside.step(1, 1));
        check.throwsArgument(inside, "step inside", () -> inside.step(1, 0));
        inside.leave();
        check.is("step outside again", inside.step(1, 1), 0);
        BottleShip hulk = new BottleShip();
        hulk.setHull(10, 4, 5);
        check.throwsArgument(hulk, "step behind another hull", () -> hulk.step(11, 5));
        check.is("step on another hull", hulk.step(10, 5), 0);
    }

    private static void yard() {
        BottleShip x = new BottleShip();
        check.throwsIndex(x, "yard without masts", () -> x.yard(0, 5));
        x.step(5, 9);
        x.step(6, 9);
        check.is("a first yard", x.yard(1, 1), 1);
        check.is("a second yard", x.yard(1, 20), 2);
        check.is("a third yard", x.yard(1, 7), 3);
        check.throwsState(x, "a fourth yard", () -> x.yard(1, 7));
        check.throwsArgument(x, "a fourth yard", () -> x.yard(1, 0));
        check.is("a yard on the other mast", x.yard(0, 3), 1);
        for (int mast : new int[] {-1, 2, LEAST, MOST}) {
            check.throwsIndex(x, "yard", () -> x.yard(mast, 5));
            check.throwsIndex(x, "yard", () -> x.yard(mast, 0));
        }
        for (int width : new int[] {0, 21, LEAST, MOST}) {
            check.throwsArgument(x, "yard", () -> x.yard(0, width));
        }
        check.is("enter", x.enter(), true);
        check.throwsState(x, "yard inside", () -> x.yard(0, 5));
        check.throwsArgument(x, "yard inside", () -> x.yard(0, 21));
        check.throwsIndex(x, "yard inside", () -> x.yard(2, 21));
        x.leave();
        check.is("a yard outside again", x.yard(0, 5), 2);
    }

    private static void lead() {
        BottleShip x = new BottleShip();
        check.throwsIndex(x, "lead without masts", () -> x.lead(0, -1, 5));
        x.step(5, 9);
        check.throwsIndex(x, "lead to no mast", () -> x.lead(0, 1, 5));
        x.step(6, 9);
        for (int mast : new int[] {-2, 2, LEAST, MOST}) {
            check.throwsIndex(x, "lead", () -> x.lead(mast, 0, 5));
            check.throwsIndex(x, "lead", () -> x.lead(0, mast, 5));
            check.throwsIndex(x, "lead", () -> x.lead(mast, mast, 0));
        }
        check.throwsIndex(x, "lead from the bow", () -> x.lead(-1, 0, 5));
        check.throwsIndex(x, "lead from the bow to it", () -> x.lead(-1, -1, 5));
        check.throwsArgument(x, "lead to itself", () -> x.lead(1, 1, 5));
        for (int strength : new int[] {0, 10, -1, LEAST, MOST}) {
            check.throwsArgument(x, "lead", () -> x.lead(0, 1, strength));
        }
        check.is("lead to the bow", x.lead(1, -1, 1), 0);
        check.is("enter", x.enter(), true);
        check.is("lead inside", x.lead(0, 1, 9), 1);
        check.is("from", x.thread(1, 0), 0);
        check.is("to", x.thread(1, 1), 1);
        check.is("strength", x.thread(1, 2), 9);
        check.is("loose", x.thread(1, 3), 0);
        for (int thread = 2; thread < 8; thread++) {
            check.is("lead once more", x.lead(thread % 2, -1, 3), thread);
        }
        check.throwsState(x, "lead a ninth", () -> x.lead(0, 1, 9));
        check.throwsArgument(x, "lead a ninth", () -> x.lead(0, 0, 9));
        check.throwsArgument(x, "lead a ninth", () -> x.lead(0, 1, 10));
        check.throwsIndex(x, "lead a ninth", () -> x.lead(0, 2, 9));
        check.is("threads", x.count(3), 8);
    }

    private static void enter() {
        BottleShip x = new BottleShip();
        check.is("enter", x.enter(), true);
        check.is("inside", x.ship(5), 1);
        long before = x.digest();
        check.is("enter twice", x.enter(), false);
        check.is("still inside, and the same", x.digest(), before);

        check.is("top as the neck", entersThrough(7, 7, 6), true);
        check.is("top above the neck", entersThrough(6, 7, 6), false);
        check.is("breadth as the neck", entersThrough(7, 6, 7), true);
        check.is("breadth above the neck", entersThrough(6, 6, 7), false);
        check.is("just into the belly", entersBelly(24, 40, 20), true);
        check.is("putty too high", entersBelly(23, 40, 20), false);
        check.is("belly too short", entersBelly(24, 39, 20), false);

        BottleShip reaching = new BottleShip();
        reaching.step(40, 21);
        check.is("a mast that reaches out of the belly", reaching.enter(), false);
        check.is("still outside", reaching.ship(5), 0);
        reaching.setBottle(8, 30, 61, 0);
        check.is("a mast that reaches to its end", reaching.enter(), true);

        BottleShip spread = new BottleShip();
        spread.step(3, 2);
        spread.yard(0, 9);
        spread.lead(0, -1, 5);
        spread.pull(0);
        check.is("a raised yard", spread.enter(), false);
        spread.setBottle(9, 30, 60, 0);
        check.is("a raised yard through a wider neck", spread.enter(), true);
        BottleShip flat = new BottleShip();
        flat.step(3, 2);
        flat.yard(0, 20);
        check.is("a flat yard", flat.enter(), true);
    }

    private static boolean entersThrough(int neck, int height, int width) {
        BottleShip x = new BottleShip();
        x.setBottle(neck, 60, 90, 0);
        x.setHull(40, height, width);
        boolean enters = x.enter();
        check.is("inside then", x.ship(5), enters ? 1 : 0);
        return enters;
    }

    private static boolean entersBelly(int high, int length, int putty) {
        BottleShip x = new BottleShip();
        x.setBottle(8, high, length, putty);
        boolean enters = x.enter();
        check.is("inside then", x.ship(5), enters ? 1 : 0);
        return enters;
    }

    private static void leave() {
        BottleShip x = new BottleShip();
        long outside = x.digest();
        check.is("leave outside", x.leave(), false);
        check.is("nothing has changed", x.digest(), outside);
        x.enter();
        check.is("leave", x.leave(), true);
        check.is("outside again", x.ship(5), 0);
        check.is("as before", x.digest(), outside);

        BottleShip raised = new BottleShip();
        raised.step(3, 18);
        raised.lead(0, -1, 5);
        raised.enter();
        check.is("raise", raised.pull(0), 8);
        check.is("raise", raised.pull(0), 7);
        check.is("leave with the top as the neck", raised.leave(), true);
        raised.enter();
        check.is("raise more", raised.pull(0), 6);
        check.is("leave with a mast too high", raised.leave(), false);
        check.is("still inside", raised.ship(5), 1);

        // Fallen masts may reach out of the belly: the neck alone counts on the way out.
        BottleShip fallen = new BottleShip();
        fallen.setBottle(20, 30, 41, 0);
        fallen.step(39, 9);
        fallen.step(38, 1);
        fallen.lead(0, -1, 1);
        for (int lean = 8; lean >= 2; lean--) {
            check.is("raise outside", fallen.pull(0), lean);
        }
        check.is("the mast ends at", fallen.ship(2), 41);
        check.is("enter", fallen.enter(), true);
        fallen.lead(1, -1, 9);
        check.is("break its thread", fallen.pull(0), -2);
        check.is("it falls", fallen.pass(7), 1);
        check.is("the mast ends at", fallen.ship(2), 48);
        check.is("it does not fit", fallen.ship(4), 0);
        check.is("it leaves", fallen.leave(), true);
        check.is("and cannot enter again", fallen.enter(), false);
    }
}

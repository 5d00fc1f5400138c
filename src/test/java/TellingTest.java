/** Promises 12 to 15: what is told of masts, threads, the ship, and how many there are. */
public final class TellingTest {
    private static final Check check = new Check("TellingTest");
    private static final int LEAST = Integer.MIN_VALUE;
    private static final int MOST = Integer.MAX_VALUE;

    public static void main(String[] args) {
        mast();
        everyLean();
        thread();
        ship();
        count();
        wrong();
        check.end();
    }

    private static void tells(String what, int[] answers, int... due) {
        for (int i = 0; i < due.length; i++) {
            check.is(what + ", what " + i, answers[i], due[i]);
        }
        check.is(what + ", how many", answers.length, due.length);
    }

    private static int[] ofMast(BottleShip x, int mast) {
        int[] answers = new int[8];
        for (int what = 0; what < 8; what++) {
            answers[what] = x.mast(mast, what);
        }
        return answers;
    }

    private static int[] ofThread(BottleShip x, int thread) {
        int[] answers = new int[5];
        for (int what = 0; what < 5; what++) {
            answers[what] = x.thread(thread, what);
        }
        return answers;
    }

    private static int[] ofShip(BottleShip x) {
        int[] answers = new int[6];
        for (int what = 0; what < 6; what++) {
            answers[what] = x.ship(what);
        }
        return answers;
    }

    private static int[] ofCount(BottleShip x) {
        int[] answers = new int[8];
        for (int what = 0; what < 8; what++) {
            answers[what] = x.count(what);
        }
        return answers;
    }

    private static void mast() {
        BottleShip x = new BottleShip();
        x.step(7, 31);
        tells("a new mast", ofMast(x, 0), 7, 31, 9, 0, 31, 0, 0, 0);
        x.yard(0, 4);
        x.yard(0, 5);
        x.lead(0, -1, 5);
        x.lead(0, -1, 5);
        x.step(9, 2);
        x.lead(1, 0, 5);
        tells("with yards and threads", ofMast(x, 0), 7, 31, 9, 0, 31, 2, 0, 2);
        x.pull(0);
        x.glue(0);
        tells("held", ofMast(x, 0), 7, 31, 8, 3, 27, 2, 1, 1);
        tells("the other", ofMast(x, 1), 9, 2, 9, 0, 2, 0, 0, 1);
    }

    private static void everyLean() {
        BottleShip x = new BottleShip();
        x.step(7, 50);
        x.lead(0, -1, 5);
        int[] standing = {50, 44, 38, 33, 27, 22, 16, 11, 5, 0};
        int[] reach = {0, 5, 11, 16, 22, 27, 33, 38, 44, 50};
        for (int lean = 9; lean >= 0; lean--) {
            check.is("lean", x.mast(0, 2), lean);
            check.is("standing at " + lean, x.mast(0, 3), standing[lean]);
            check.is("reach at " + lean, x.mast(0, 4), reach[lean]);
            check.is("top at " + lean, x.ship(1), 4 + standing[lean]);
            check.is("end at " + lean, x.ship(2), Math.max(40, 7 + reach[lean]));
            x.pull(0);
        }
    }

    private static void thread() {
        BottleShip x = new BottleShip();
        x.step(10, 9);
        x.step(20, 9);
        x.lead(0, -1, 1);
        x.lead(1, -1, 2);
        x.lead(1, 0, 9);
        tells("to the bow", ofThread(x, 0), 0, -1, 1, 0, 1);
        tells("across", ofThread(x, 1), 1, -1, 2, 0, 2);
        tells("to a mast", ofThread(x, 2), 1, 0, 9, 0, 1);
        x.glue(2);
        tells("glued, it still crosses", ofThread(x, 2), 1, 0, 9, 1, 1);
        x.pull(0);
        tells("broken", ofThread(x, 0), 0, -1, 0, 2, 0);
        tells("it crosses one less", ofThread(x, 1), 1, -1, 2, 0, 1);
        tells("the glued one", ofThread(x, 2), 1, 0, 9, 1, 1);
    }

    private static void ship() {
        BottleShip x = new BottleShip();
        x.setBottle(9, 13, 50, 2);
        x.setHull(45, 5, 6);
        x.step(30, 18);
        x.step(40, 9);
        x.yard(0, 12);
        x.yard(0, 9);
        x.yard(0, 20);
        x.yard(1, 7);
        tells("flat", ofShip(x), 6, 5, 49, 1, 1, 0);
        x.lead(0, -1, 5);
        x.lead(1, 0, 5);
        x.pull(1);
        tells("the lower one raised", ofShip(x), 7, 6, 48, 1, 1, 0);
        x.enter();
        tells("inside", ofShip(x), 7, 6, 48, 1, 1, 1);
        x.pull(0);
        tells("too broad for the neck", ofShip(x), 20, 7, 48, 0, 1, 1);
        check.is("leave", x.leave(), false);
        check.is("pull", x.pull(0), 7);
        check.is("pull", x.pull(0), 6);
        tells("as high as the belly", ofShip(x), 20, 11, 48, 0, 1, 1);
        BottleShip y = new BottleShip();
        y.setBottle(20, 13, 41, 0);
        y.step(40, 2);
        tells("its end outside the belly", ofShip(y), 5, 4, 42, 1, 0, 0);
        y.lead(0, -1, 1);
        y.pull(0);
        tells("its end in the belly", ofShip(y), 5, 4, 41, 1, 1, 0);
        y.setBottle(4, 13, 41, 0);
        tells("too broad", ofShip(y), 5, 4, 41, 0, 1, 0);
        y.setBottle(5, 13, 41, 9);
        tells("just so", ofShip(y), 5, 4, 41, 1, 1, 0);
        y.setBottle(5, 13, 41, 10);
        tells("too high", ofShip(y), 5, 4, 41, 1, 0, 0);
    }

    private static void count() {
        BottleShip x = new BottleShip();
        x.step(10, 9);
        x.step(20, 9);
        x.lead(0, -1, 1);
        x.lead(0, -1, 1);
        x.lead(1, -1, 2);
        tells("at first", ofCount(x), 0, 2, 0, 3, 3, 0, 0, 0);
        x.pull(0);
        x.glue(1);
        tells("a broken and a glued one", ofCount(x), 0, 2, 0, 3, 1, 1, 0, 1);
        for (int i = 0; i < 10; i++) {
            x.pull(2);
        }
        tells("an upright mast", ofCount(x), 0, 2, 1, 3, 1, 1, 9, 2);
        x.pass(3);
        x.pass(50);
        tells("hours", ofCount(x), 53, 2, 1, 3, 1, 1, 9, 2);
    }

    private static void wrong() {
        BottleShip x = new BottleShip();
        check.throwsIndex(x, "mast without masts", () -> x.mast(0, 0));
        check.throwsIndex(x, "thread without threads", () -> x.thread(0, 0));
        x.step(10, 9);
        x.lead(0, -1, 5);
        for (int number : new int[] {-1, 1, 3, 8, LEAST, MOST}) {
            check.throwsIndex(x, "mast " + number, () -> x.mast(number, 0));
            check.throwsIndex(x, "thread " + number, () -> x.thread(number, 0));
        }
        for (int what : new int[] {-1, 8, LEAST, MOST}) {
            check.throwsIndex(x, "mast what " + what, () -> x.mast(0, what));
            check.throwsIndex(x, "count what " + what, () -> x.count(what));
        }
        for (int what : new int[] {-1, 5, LEAST, MOST}) {
            check.throwsIndex(x, "thread what " + what, () -> x.thread(0, what));
        }
        for (int what : new int[] {-1, 6, LEAST, MOST}) {
            check.throwsIndex(x, "ship what " + what, () -> x.ship(what));
        }
    }
}

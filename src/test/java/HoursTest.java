/** Promises 16 and 20: what hours do to masts, and when all are flat. */
public final class HoursTest {
    private static final Check check = new Check("HoursTest");

    public static void main(String[] args) {
        passWhatIsNotHeld();
        passAlone();
        passInside();
        passWrong();
        falls();
        check.end();
    }

    /** A mast at lean 0 without a loose thread: its own one is broken by a stronger one of mast 1. */
    private static BottleShip fallingFrom(int lean, int yards) {
        BottleShip x = new BottleShip();
        x.setBottle(20, 60, 90, 0);
        x.step(10, 9);
        x.step(20, 9);
        for (int y = 0; y < yards; y++) {
            x.yard(0, 1);
        }
        x.lead(0, -1, 1);
        for (int i = 9; i > lean; i--) {
            x.pull(0);
        }
        return x;
    }

    private static void letGo(BottleShip x) {
        x.lead(1, -1, 9);
        check.is("its thread breaks", x.pull(0), -2);
    }

    private static void passWhatIsNotHeld() {
        BottleShip x = fallingFrom(4, 0);
        check.is("a loose thread keeps it", x.pass(50), 0);
        check.is("its lean", x.mast(0, 2), 4);
        x.glue(0);
        check.is("a glued thread keeps it", x.pass(1), 0);
        check.is("its lean", x.mast(0, 2), 4);
        check.is("the hour", x.count(0), 51);
        x.glue(0);
        letGo(x);
        check.is("a broken one does not", x.pass(2), 0);
        check.is("its lean", x.mast(0, 2), 6);
        check.is("almost flat", x.pass(2), 0);
        check.is("its lean", x.mast(0, 2), 8);
        check.is("flat", x.pass(1), 1);
        check.is("its lean", x.mast(0, 2), 9);
        check.is("flat before", x.pass(1), 0);
        check.is("its lean", x.mast(0, 2), 9);
        check.is("the hour", x.count(0), 57);
        check.is("no pull", x.count(6), 5);
    }

    private static void passAlone() {
        int[] fall = {1, 1, 2, 2};
        for (int yards = 0; yards <= 3; yards++) {
            for (int lean = 1; lean <= 8; lean++) {
                BottleShip x = fallingFrom(lean, yards);
                letGo(x);
                x.pass(1);
                check.is("lean with yards", x.mast(0, 2), Math.min(9, lean + fall[yards]));
                check.is("the other one", x.mast(1, 2), 9);
                BottleShip y = fallingFrom(lean, yards);
                letGo(y);
                check.is("all hours", y.pass(50), 1);
                check.is("flat", y.mast(0, 2), 9);
            }
        }

        BottleShip three = fallingFrom(5, 0);
        three.step(30, 9);
        three.lead(2, -1, 1);
        three.pull(1);
        letGo(three);
        check.is("two of them", three.pull(1), -2);
        check.is("both fall", three.pass(4), 2);
    }

    private static void passInside() {
        BottleShip x = new BottleShip();
        x.setBottle(20, 60, 41, 0);
        x.step(39, 9);
        x.step(20, 2);
        x.lead(0, -1, 1);
        for (int i = 0; i < 8; i++) {
            x.pull(0);
        }
        check.is("enter", x.enter(), true);
        letGo(x);
        check.is("it falls through the belly", x.pass(20), 1);
        check.is("it does not fit", x.ship(4), 0);
        check.is("it is inside", x.ship(5), 1);
    }

    private static void passWrong() {
        BottleShip x = fallingFrom(4, 0);
        letGo(x);
        for (int hours : new int[] {0, -1, 51, Integer.MIN_VALUE, Integer.MAX_VALUE}) {
            check.throwsArgument(x, "pass " + hours, () -> x.pass(hours));
        }
        BottleShip none = new BottleShip();
        check.is("pass without masts", none.pass(50), 0);
        check.is("the hour", none.count(0), 50);
    }

    private static void falls() {
        check.is("falls without masts", new BottleShip().falls(), 0);
        int[][] due = {
            {0, 8, 7, 6, 5, 4, 3, 2, 1, 0},
            {0, 8, 7, 6, 5, 4, 3, 2, 1, 0},
            {0, 4, 4, 3, 3, 2, 2, 1, 1, 0},
            {0, 4, 4, 3, 3, 2, 2, 1, 1, 0},
        };
        for (int yards = 0; yards <= 3; yards++) {
            for (int lean = 1; lean <= 8; lean++) {
                BottleShip x = fallingFrom(lean, yards);
                check.is("kept by a loose thread", x.falls(), -1);
                letGo(x);
                long before = x.digest();
                check.is("falls from " + lean + " with yards " + yards, x.falls(), due[yards][lean]);
                check.is("falls changes nothing", x.digest(), before);
            }
        }

        BottleShip x = fallingFrom(9, 0);
        check.is("flat, though a loose thread keeps it", x.falls(), 0);
        x.pull(0);
        x.glue(0);
        check.is("held", x.falls(), -1);
        x.glue(0);
        letGo(x);
        check.is("an hour", x.falls(), 1);
        x.pull(1);
        check.is("the other one is kept", x.falls(), -1);

        // Mast 0 falls from 5 in four hours, mast 2 from 4 with two yards in three.
        BottleShip three = fallingFrom(5, 0);
        three.step(30, 9);
        three.yard(2, 1);
        three.yard(2, 1);
        three.lead(2, -1, 1);
        for (int i = 0; i < 5; i++) {
            three.pull(1);
        }
        letGo(three);
        check.is("two of them", three.pull(1), -2);
        check.is("the longest of them", three.falls(), 4);
    }
}

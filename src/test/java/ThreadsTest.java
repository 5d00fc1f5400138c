/** Promises 9 to 11: pulling and gluing threads, and how they cross. */
public final class ThreadsTest {
    private static final Check check = new Check("ThreadsTest");
    private static final int LEAST = Integer.MIN_VALUE;
    private static final int MOST = Integer.MAX_VALUE;

    public static void main(String[] args) {
        pullRaises();
        pullLowersOthers();
        pullOfHeldOrUpright();
        pullOfCrossed();
        pullOfEight();
        pullThatWouldNotFit();
        pullReasonsInOrder();
        pullWrong();
        glue();
        cross();
        crossOfBroken();
        check.end();
    }

    private static BottleShip withMasts(int... places) {
        BottleShip x = new BottleShip();
        for (int place : places) {
            x.step(place, 18);
        }
        return x;
    }

    private static void leans(String what, BottleShip x, int... due) {
        for (int m = 0; m < due.length; m++) {
            check.is(what + ", lean of " + m, x.mast(m, 2), due[m]);
        }
    }

    private static void pullRaises() {
        BottleShip x = withMasts(10, 20);
        x.lead(0, -1, 4);
        for (int lean = 8; lean >= 0; lean--) {
            check.is("pull", x.pull(0), lean);
            leans("pulled", x, lean, 9);
        }
        check.is("done", x.count(6), 9);
        check.is("not done", x.count(7), 0);
        check.is("its strength stays", x.thread(0, 2), 4);
        check.is("no hour goes by", x.count(0), 0);
    }

    private static void pullLowersOthers() {
        BottleShip x = withMasts(10, 20, 30);
        x.lead(0, -1, 9);
        x.lead(1, -1, 9);
        x.lead(2, 0, 9);
        x.lead(2, 1, 9);
        x.lead(2, 1, 9);
        check.is("the stronger ones cross none more", x.pull(0), 8);
        check.is("pull", x.pull(0), 7);
        check.is("pull", x.pull(1), 8);
        leans("raised", x, 7, 8, 9);
        check.is("both threads to one mast lower it once", x.pull(2), 8);
        leans("lowered", x, 8, 9, 8);
        check.is("flat ones stay so", x.pull(4), 7);
        leans("lowered", x, 9, 9, 7);
        x.pull(0);
        x.pull(1);
        x.glue(1);
        check.is("a held one stays", x.pull(2), 6);
        leans("held", x, 9, 8, 6);
        x.glue(1);
        x.pull(0);
        x.glue(2);
        check.is("its mast is held", x.pull(3), -1);
        x.glue(2);
        leans("as before", x, 8, 8, 6);
        check.is("pull", x.pull(3), 5);
        leans("both lowered", x, 9, 9, 5);

        BottleShip y = withMasts(10, 20);
        y.lead(0, -1, 9);
        y.lead(1, -1, 9);
        y.lead(1, 0, 9);
        y.pull(0);
        y.glue(2);
        check.is("its own mast is held", y.pull(1), -1);
        y.glue(2);
        check.is("threads to a mast do not lower it when that is pulled", y.pull(0), 7);
        leans("not lowered", y, 7, 9);
        check.is("a thread to the bow lowers through the others", y.pull(1), 8);
        leans("lowered", y, 8, 8);

        // The thread to mast 0 breaks, and mast 1 no longer lowers it.
        BottleShip z = withMasts(10, 20);
        z.lead(0, -1, 9);
        z.lead(1, 0, 1);
        z.lead(1, -1, 9);
        z.pull(0);
        check.is("crossed by a stronger one", z.pull(1), -2);
        check.is("broken", z.thread(1, 3), 2);
        check.is("pull", z.pull(2), 8);
        leans("not lowered", z, 8, 8);
    }

    private static void pullOfHeldOrUpright() {
        BottleShip x = withMasts(10);
        x.lead(0, -1, 2);
        x.lead(0, -1, 2);
        x.glue(1);
        check.is("held", x.pull(0), -1);
        check.is("strength", x.thread(0, 2), 2);
        check.is("not done", x.count(7), 1);
        check.is("done", x.count(6), 0);
        leans("held", x, 9);
        x.glue(1);
        for (int i = 0; i < 9; i++) {
            x.pull(0);
        }
        leans("upright", x, 0);
        check.is("upright", x.pull(0), -1);
        check.is("upright", x.pull(1), -1);
        check.is("strength", x.thread(0, 2), 2);
        check.is("not done", x.count(7), 3);
        check.is("done", x.count(6), 9);
    }

    private static void pullOfCrossed() {
        BottleShip x = withMasts(10, 20);
        x.lead(0, -1, 3);
        x.lead(1, -1, 3);
        check.is("equal strength does not hinder", x.pull(0), 8);
        x.lead(1, 0, 9);
        check.is("what only meets does not hinder", x.pull(0), 7);
        x.lead(1, -1, 4);
        check.is("a stronger one hinders", x.pull(0), -2);
        leans("hindered", x, 7, 9);
        check.is("it wears", x.thread(0, 2), 2);
        check.is("not broken yet", x.thread(0, 3), 0);
        x.glue(3);
        check.is("a glued one does not, but the other one is stronger now", x.pull(0), -2);
        check.is("it wears", x.thread(0, 2), 1);
        x.glue(1);
        check.is("both glued", x.pull(0), 6);
        x.glue(1);
        check.is("hindered again", x.pull(0), -2);
        check.is("it breaks", x.thread(0, 2), 0);
        check.is("broken", x.thread(0, 3), 2);
        check.is("broken ones", x.count(5), 1);
        check.is("not done", x.count(7), 3);
        check.is("done", x.count(6), 3);
        check.throwsState(x, "pull a broken one", () -> x.pull(0));

        // The stronger one breaks, and hinders no more.
        BottleShip y = withMasts(10, 20, 30);
        y.lead(0, -1, 1);
        y.lead(1, -1, 2);
        y.lead(2, -1, 3);
        check.is("hindered", y.pull(1), -2);
        check.is("hindered", y.pull(1), -2);
        check.is("broken", y.thread(1, 3), 2);
        y.glue(2);
        check.is("hindered no more", y.pull(0), 8);

        BottleShip z = withMasts(10, 20);
        z.lead(1, -1, 9);
        z.lead(0, -1, 8);
        check.is("hindered by the very first one", z.pull(1), -2);
    }

    private static void pullOfEight() {
        BottleShip x = withMasts(10, 20, 30);
        for (int strength = 1; strength <= 7; strength++) {
            x.lead(0, -1, strength);
        }
        x.lead(1, 0, 1);
        check.is("the strongest one", x.pull(6), 8);
        check.is("the last one", x.pull(7), 8);
        leans("pulled", x, 9, 8, 9);
        check.is("the weakest one", x.pull(0), -2);
        check.is("crossed ones", x.thread(6, 4), 5);
        check.is("fewest without a thread of mast 2", x.fewest(), -1);
        check.is("least", x.least(0), 0);
        check.is("glue the last one", x.glue(7), 1);
    }

    private static void pullThatWouldNotFit() {
        BottleShip x = new BottleShip();
        x.setBottle(8, 8, 60, 2);
        x.step(10, 9);
        x.lead(0, -1, 2);
        x.enter();
        check.is("just fits", x.pull(0), 8);
        check.is("the top", x.ship(1), 5);
        check.is("just fits", x.pull(0), 7);
        check.is("would not fit", x.pull(0), -3);
        leans("stays", x, 7);
        check.is("it wears", x.thread(0, 2), 1);
        check.is("would not fit", x.pull(0), -3);
        check.is("it breaks", x.thread(0, 3), 2);
        check.is("not done", x.count(7), 2);
        check.is("it leaves", x.leave(), true);
        x.lead(0, -1, 1);
        check.is("outside it need not fit", x.pull(1), 6);

        // A mast that is let down reaches out of the belly.
        BottleShip y = new BottleShip();
        y.setBottle(20, 60, 40, 0);
        y.step(35, 9);
        y.step(5, 9);
        y.lead(0, -1, 9);
        y.lead(1, 0, 9);
        for (int i = 0; i < 5; i++) {
            y.pull(0);
        }
        leans("raised", y, 4, 9);
        check.is("enter", y.enter(), true);
        check.is("lowers to the very end", y.pull(1), 8);
        check.is("the end", y.ship(2), 40);
        check.is("would lower beyond", y.pull(1), -3);
        leans("stays", y, 5, 8);
        check.is("it wears", y.thread(1, 2), 8);
    }

    private static void pullReasonsInOrder() {
        BottleShip x = new BottleShip();
        x.setBottle(8, 5, 60, 0);
        x.step(10, 9);
        x.step(20, 9);
        x.lead(0, -1, 8);
        x.lead(0, -1, 8);
        x.lead(1, -1, 9);
        x.enter();
        check.is("raise to the ceiling", x.pull(0), -2);
        x.glue(1);
        check.is("held, and hindered", x.pull(0), -1);
        x.glue(1);
        x.glue(2);
        check.is("fits", x.pull(1), 8);
        check.is("would not fit", x.pull(1), -3);
        x.glue(2);
        check.is("hindered, and would not fit", x.pull(1), -2);
        x.glue(0);
        check.is("held, and all else", x.pull(1), -1);
        check.is("worn by two of them", x.thread(1, 2), 6);
        check.is("worn by one", x.thread(0, 2), 7);
    }

    private static void pullWrong() {
        BottleShip x = withMasts(10);
        check.throwsIndex(x, "pull without threads", () -> x.pull(0));
        x.lead(0, -1, 5);
        for (int thread : new int[] {-1, 1, 8, LEAST, MOST}) {
            check.throwsIndex(x, "pull", () -> x.pull(thread));
            check.throwsIndex(x, "glue", () -> x.glue(thread));
            check.throwsIndex(x, "cross", () -> x.cross(thread, 0));
            check.throwsIndex(x, "cross", () -> x.cross(0, thread));
            check.throwsIndex(x, "cross", () -> x.cross(thread, thread));
        }
        x.glue(0);
        check.throwsState(x, "pull a glued one", () -> x.pull(0));
        check.is("such pulls are not counted", x.count(7), 0);
    }

    private static void glue() {
        BottleShip x = withMasts(10, 20);
        check.throwsIndex(x, "glue without threads", () -> x.glue(0));
        x.lead(0, -1, 1);
        x.lead(1, -1, 9);
        check.is("glue", x.glue(0), 1);
        check.is("glued", x.thread(0, 3), 1);
        check.is("held", x.mast(0, 6), 1);
        check.is("the other is not", x.mast(1, 6), 0);
        check.is("loosen", x.glue(0), 0);
        check.is("loose", x.thread(0, 3), 0);
        check.is("not held", x.mast(0, 6), 0);
        check.is("strength", x.thread(0, 2), 1);
        x.pull(0);
        check.throwsState(x, "glue a broken one", () -> x.glue(0));
        check.is("enter", x.enter(), true);
        check.is("glue inside", x.glue(1), 1);
    }

    private static void cross() {
        BottleShip x = withMasts(10, 20, 0);
        check.throwsIndex(x, "cross without threads", () -> x.cross(0, 0));
        x.lead(0, -1, 5);
        x.lead(1, 0, 5);
        x.lead(1, -1, 5);
        x.lead(0, 1, 5);
        x.lead(2, -1, 5);
        x.lead(2, 1, 5);
        int[][] crossing = {
            {0, 0, 1, 0, 0, 1},
            {0, 0, 1, 1, 0, 1},
            {1, 1, 0, 1, 0, 1},
            {0, 1, 1, 0, 0, 1},
            {0, 0, 0, 0, 0, 0},
            {1, 1, 1, 1, 0, 0},
        };
        long before = x.digest();
        for (int a = 0; a < 6; a++) {
            for (int b = 0; b < 6; b++) {
                check.is("cross " + a + " " + b, x.cross(a, b), crossing[a][b] == 1);
            }
        }
        check.is("cross changes nothing", x.digest(), before);
        x.glue(0);
        x.glue(2);
        check.is("glued ones cross", x.cross(0, 2), true);
        check.is("a glued and a loose one cross", x.cross(2, 5), true);
    }

    private static void crossOfBroken() {
        BottleShip x = withMasts(10, 20);
        x.lead(0, -1, 1);
        x.lead(1, -1, 2);
        check.is("cross", x.cross(0, 1), true);
        x.pull(0);
        check.is("broken", x.cross(0, 1), false);
        check.is("broken", x.cross(1, 0), false);
    }
}

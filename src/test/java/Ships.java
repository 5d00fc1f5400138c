/** Ships that several tests begin with. */
final class Ships {
    private Ships() {
    }

    /** Beside the greatest bottle, so that nothing about it hinders. */
    static BottleShip wide() {
        BottleShip x = new BottleShip();
        x.setBottle(20, 60, 90, 0);
        return x;
    }

    /** Masts that are 9 high, so that their reach is their lean. */
    static BottleShip withMasts(int... places) {
        BottleShip x = wide();
        for (int place : places) {
            x.step(place, 9);
        }
        return x;
    }

    /** As many masts, yards and threads as there may be; no thread hinders another one. */
    static BottleShip full() {
        BottleShip x = withMasts(10, 20, 30);
        for (int mast = 0; mast < 3; mast++) {
            for (int yard = 0; yard < 3; yard++) {
                x.yard(mast, 3 + mast + yard);
            }
        }
        int[][] threads = {{0, -1}, {1, -1}, {2, -1}, {1, 0}, {2, 0}, {2, 1}, {0, 1}, {0, 2}};
        for (int[] t : threads) {
            x.lead(t[0], t[1], 5);
        }
        return x;
    }

    static BottleShip inside(BottleShip x) {
        if (!x.enter()) {
            throw new AssertionError("this ship should enter");
        }
        return x;
    }

    static void pull(BottleShip x, int thread, int times) {
        for (int i = 0; i < times; i++) {
            if (x.pull(thread) < 0) {
                throw new AssertionError("this pull should be done");
            }
        }
    }

    /** Heights with which a mast that leans 1 to 8 stands 4 high, and higher if it is raised. */
    private static final int[] STANDING_4 = {0, 5, 6, 7, 8, 9, 12, 18, 36};

    /**
     * In the bottle, with a mast of each lean, 1 to 8, and its yards; each one's only thread has
     * been broken by the ceiling. (No upright mast can fall: its thread cannot be broken.)
     */
    static BottleShip falling(int[] leans, int[] yards) {
        BottleShip x = wide();
        for (int mast = 0; mast < leans.length; mast++) {
            x.step(10 + 10 * mast, STANDING_4[leans[mast]]);
            for (int yard = 0; yard < yards[mast]; yard++) {
                x.yard(mast, 1);
            }
            pull(x, x.lead(mast, -1, 1), 9 - leans[mast]);
        }
        x.setBottle(20, 8, 90, 0);
        inside(x);
        for (int mast = 0; mast < leans.length; mast++) {
            if (x.pull(mast) != -3) {
                throw new AssertionError("this pull should break the thread");
            }
        }
        return x;
    }

    static BottleShip falling(int lean, int yards) {
        return falling(new int[] {lean}, new int[] {yards});
    }
}

/** Promises 12 to 15: every sentence that names an edge, and the least and the most that is told. */
public final class TellingEdgesTest {
    private static final Check check = new Check("TellingEdgesTest");
    private static final int LEAST = Integer.MIN_VALUE;
    private static final int MOST = Integer.MAX_VALUE;

    public static void main(String[] args) {
        mastNumbers();
        mastWhat();
        mastHeights();
        mastYardsAndThreads();
        threadNumbers();
        threadWhat();
        threadStates();
        threadCrossings();
        shipWhat();
        shipLeastAndMost();
        shipFlags();
        countWhat();
        countLeastAndMost();
        countPulls();
        tellingChangesNothing();
        check.end();
    }

    private static void mastNumbers() {
        check.sentence("mast: IndexOutOfBoundsException if there is no such mast");
        BottleShip x = Ships.wide();
        for (int masts = 0; masts <= 3; masts++) {
            int there = masts;
            for (int what = 0; what < 8; what++) {
                int w = what;
                for (int mast : new int[] {-1, there, 3, LEAST, MOST}) {
                    check.throwsIndex(x, mast + " of " + there, () -> x.mast(mast, w));
                }
            }
            if (masts < 3) {
                x.step(7 * masts, 1 + masts);
                for (int mast = 0; mast <= masts; mast++) {
                    check.is("place of " + mast, x.mast(mast, 0), 7 * mast);
                    check.is("height of " + mast, x.mast(mast, 1), 1 + mast);
                }
            }
        }
    }

    private static void mastWhat() {
        check.sentence("mast: or what is not 0 to 7");
        BottleShip x = Ships.withMasts(10, 20);
        for (int what : new int[] {-1, 8, LEAST, MOST}) {
            check.throwsIndex(x, "what " + what, () -> x.mast(0, what));
            check.throwsIndex(x, "what " + what, () -> x.mast(1, what));
            check.throwsIndex(x, "what " + what + " of no mast", () -> x.mast(2, what));
        }
        check.is("what 0", x.mast(1, 0), 20);
        check.is("what 7", x.mast(1, 7), 0);
        x.lead(1, 0, 5);
        check.is("what 7", x.mast(1, 7), 1);
    }

    private static void mastHeights() {
        check.sentence("A mast is height * (9 - lean) / 9 high as it stands, and reaches height * lean / 9");
        int[] heights = {1, 8, 9, 10, 49, 50};
        int[][] standing = {
            {1, 0, 0, 0, 0, 0, 0, 0, 0, 0},
            {8, 7, 6, 5, 4, 3, 2, 1, 0, 0},
            {9, 8, 7, 6, 5, 4, 3, 2, 1, 0},
            {10, 8, 7, 6, 5, 4, 3, 2, 1, 0},
            {49, 43, 38, 32, 27, 21, 16, 10, 5, 0},
            {50, 44, 38, 33, 27, 22, 16, 11, 5, 0},
        };
        for (int i = 0; i < heights.length; i++) {
            BottleShip x = Ships.wide();
            x.step(40, heights[i]);
            x.lead(0, -1, 5);
            for (int lean = 9; lean >= 0; lean--) {
                String who = heights[i] + " high, leaning " + lean;
                check.is(who, x.mast(0, 2), lean);
                check.is(who + ", stands", x.mast(0, 3), standing[i][lean]);
                check.is(who + ", reaches", x.mast(0, 4), standing[i][9 - lean]);
                check.is(who + ", top", x.ship(1), 4 + standing[i][lean]);
                check.is(who + ", end", x.ship(2), 40 + standing[i][9 - lean]);
                x.pull(0);
            }
        }
    }

    private static void mastYardsAndThreads() {
        check.sentence("5 its yards, 6 1 if it is held, else 0, 7 loose threads that lead from it");
        BottleShip x = Ships.withMasts(10, 20);
        for (int yard = 0; yard <= 3; yard++) {
            check.is("yards", x.mast(0, 5), yard);
            if (yard < 3) {
                x.yard(0, 1);
            }
        }
        for (int thread = 0; thread < 8; thread++) {
            check.is("loose ones", x.mast(0, 7), thread);
            x.lead(0, thread % 2 == 0 ? 1 : -1, 5);
        }
        check.is("as many as there may be", x.mast(0, 7), 8);
        check.is("none leads from the other one", x.mast(1, 7), 0);
        for (int thread = 0; thread < 8; thread++) {
            check.is("held", x.mast(0, 6), thread > 0 ? 1 : 0);
            x.glue(thread);
            check.is("loose ones", x.mast(0, 7), 7 - thread);
        }
        check.is("held by all", x.mast(0, 6), 1);
        check.is("the other one is not", x.mast(1, 6), 0);
    }

    private static void threadNumbers() {
        check.sentence("thread: IndexOutOfBoundsException if there is no such thread");
        BottleShip x = Ships.withMasts(10, 20);
        for (int threads = 0; threads <= 8; threads++) {
            int there = threads;
            for (int what = 0; what < 5; what++) {
                int w = what;
                for (int thread : new int[] {-1, there, 8, LEAST, MOST}) {
                    check.throwsIndex(x, thread + " of " + there, () -> x.thread(thread, w));
                }
            }
            if (threads < 8) {
                x.lead(threads % 2, -1, 1 + threads);
                check.is("the last one", x.thread(threads, 2), 1 + threads);
                check.is("the first one", x.thread(0, 2), 1);
            }
        }
    }

    private static void threadWhat() {
        check.sentence("thread: or what is not 0 to 4");
        BottleShip x = Ships.withMasts(10, 20);
        x.lead(1, 0, 5);
        x.lead(1, -1, 5);
        for (int what : new int[] {-1, 5, LEAST, MOST}) {
            check.throwsIndex(x, "what " + what, () -> x.thread(0, what));
            check.throwsIndex(x, "what " + what, () -> x.thread(1, what));
            check.throwsIndex(x, "what " + what + " of no thread", () -> x.thread(2, what));
        }
        check.is("what 0", x.thread(0, 0), 1);
        check.is("what 1", x.thread(0, 1), 0);
        check.is("what 1", x.thread(1, 1), -1);
        check.is("what 4", x.thread(0, 4), 1);
    }

    private static void threadStates() {
        check.sentence("2 its strength (0 if it is broken), 3 0 if it is loose, 1 if it is glued, 2 if it is broken");
        BottleShip x = Ships.withMasts(10, 20);
        x.lead(0, -1, 1);
        x.lead(1, -1, 9);
        check.is("loose", x.thread(0, 3), 0);
        check.is("least strength", x.thread(0, 2), 1);
        x.glue(0);
        check.is("glued", x.thread(0, 3), 1);
        check.is("least strength", x.thread(0, 2), 1);
        x.glue(0);
        check.is("loose again", x.thread(0, 3), 0);
        x.pull(0);
        check.is("broken", x.thread(0, 3), 2);
        check.is("no strength", x.thread(0, 2), 0);
        check.is("it leads from the same mast still", x.thread(0, 0), 0);
        check.is("it leads to the bow still", x.thread(0, 1), -1);
        check.is("most strength", x.thread(1, 2), 9);
    }

    private static void threadCrossings() {
        check.sentence("4 threads that it crosses");
        BottleShip x = Ships.withMasts(10, 20);
        for (int threads = 1; threads <= 8; threads++) {
            x.lead(threads % 2, -1, threads == 1 ? 1 : 9);
            for (int thread = 0; thread < threads; thread++) {
                check.is("crossed by all others", x.thread(thread, 4), threads - 1);
            }
        }
        x.pull(0);
        check.is("a broken one", x.thread(0, 4), 0);
        for (int thread = 1; thread < 8; thread++) {
            x.glue(thread);
        }
        for (int thread = 1; thread < 8; thread++) {
            check.is("crossed by all others, but the broken one", x.thread(thread, 4), 6);
        }
    }

    private static void shipWhat() {
        check.sentence("ship: IndexOutOfBoundsException if what is not 0 to 5");
        BottleShip x = new BottleShip();
        BottleShip full = Ships.inside(Ships.full());
        for (int what : new int[] {-1, 6, LEAST, MOST}) {
            check.throwsIndex(x, "what " + what, () -> x.ship(what));
            check.throwsIndex(full, "what " + what, () -> full.ship(what));
        }
        check.is("what 0", x.ship(0), 5);
        check.is("what 5", x.ship(5), 0);
        check.is("what 5", full.ship(5), 1);
    }

    private static void shipLeastAndMost() {
        check.sentence("Its top is its height and the greatest height of a mast as it stands, added.");
        BottleShip least = Ships.wide();
        least.setHull(5, 1, 1);
        BottleShip most = Ships.wide();
        most.setHull(80, 15, 15);
        check.is("the least top, without masts", least.ship(1), 1);
        check.is("a top without masts", most.ship(1), 15);
        most.step(80, 50);
        most.lead(0, -1, 9);
        check.is("a flat mast", most.ship(1), 15);

        check.sentence("Its end is the greatest one of its length and of each mast's place and reach, added.");
        check.is("the least end, without masts", least.ship(2), 5);
        check.is("the greatest end", most.ship(2), 130);
        Ships.pull(most, 0, 9);
        check.is("an upright mast", most.ship(2), 80);
        check.is("the greatest top", most.ship(1), 65);
        BottleShip each = Ships.wide();
        for (int mast = 0; mast < 3; mast++) {
            each.step(10 * mast, 50 - 10 * mast + mast);
            check.is("each mast", each.ship(2), 50 + mast);
        }
        BottleShip first = Ships.wide();
        for (int mast = 0; mast < 3; mast++) {
            first.step(30 - 10 * mast, 21);
            check.is("the first mast", first.ship(2), 51);
        }

        check.sentence("The ship's breadth is the greatest one of its width and of all yards");
        check.is("the least breadth", least.ship(0), 1);
        check.is("a breadth without yards", most.ship(0), 15);
        most.yard(0, 15);
        check.is("a yard as wide", most.ship(0), 15);
        most.yard(0, 16);
        check.is("a yard that is wider by 1", most.ship(0), 16);
        most.yard(0, 20);
        check.is("the greatest breadth", most.ship(0), 20);

        check.sentence("of masts that are not flat");
        BottleShip flat = Ships.withMasts(10, 20);
        flat.yard(0, 9);
        flat.yard(1, 10);
        flat.lead(0, -1, 5);
        flat.lead(1, 0, 5);
        check.is("both flat", flat.ship(0), 5);
        flat.pull(0);
        check.is("the first one leans 8", flat.ship(0), 9);
        flat.pull(1);
        check.is("it is flat again, the other one is not", flat.ship(0), 10);
        Ships.pull(flat, 1, 8);
        check.is("upright", flat.ship(0), 10);
    }

    private static void shipFlags() {
        check.sentence("3 1 if it goes through the neck, else 0, 4 1 if it fits into the belly, else 0");
        BottleShip x = new BottleShip();
        int[][] bottles = {
            {5, 4 + 1, 40, 1, 1, 1}, {4, 5, 40, 1, 0, 1}, {5, 5, 39, 1, 1, 0},
            {5, 5, 40, 2, 1, 0}, {4, 5, 39, 2, 0, 0}, {20, 60, 90, 20, 1, 1}, {1, 5, 10, 20, 0, 0},
        };
        for (int[] b : bottles) {
            x.setBottle(b[0], b[1], b[2], b[3]);
            check.is("through the neck " + b[0], x.ship(3), b[4]);
            check.is("into the belly " + b[1] + " " + b[2] + " " + b[3], x.ship(4), b[5]);
        }
        x.setBottle(8, 9, 60, 0);
        x.step(10, 9);
        x.yard(0, 9);
        x.lead(0, -1, 5);
        x.enter();
        x.pull(0);
        check.is("inside, it goes through the neck no more", x.ship(3), 0);
        check.is("inside, it fits", x.ship(4), 1);
        check.is("inside", x.ship(5), 1);
    }

    private static void countWhat() {
        check.sentence("count: IndexOutOfBoundsException if what is not 0 to 7");
        BottleShip x = new BottleShip();
        BottleShip full = Ships.full();
        for (int what : new int[] {-1, 8, LEAST, MOST}) {
            check.throwsIndex(x, "what " + what, () -> x.count(what));
            check.throwsIndex(full, "what " + what, () -> full.count(what));
        }
        full.pass(1);
        check.is("what 0", full.count(0), 1);
        check.is("what 7", full.count(7), 0);
    }

    private static void countLeastAndMost() {
        check.sentence("1 masts, 2 masts that are upright, 3 threads, 4 threads that are loose, 5 threads that are broken");
        BottleShip x = Ships.full();
        check.is("masts", x.count(1), 3);
        check.is("none is upright", x.count(2), 0);
        check.is("threads", x.count(3), 8);
        check.is("all are loose", x.count(4), 8);
        check.is("none is broken", x.count(5), 0);
        for (int thread = 0; thread < 8; thread++) {
            x.glue(thread);
        }
        check.is("none is loose", x.count(4), 0);
        check.is("threads", x.count(3), 8);

        BottleShip upright = Ships.withMasts(10, 20, 30);
        for (int mast = 0; mast < 3; mast++) {
            upright.lead(mast, -1, 5);
            Ships.pull(upright, mast, 8);
            check.is("a mast at 1 is not upright", upright.count(2), mast);
            Ships.pull(upright, mast, 1);
            check.is("upright ones", upright.count(2), mast + 1);
        }

        BottleShip broken = Ships.withMasts(10);
        for (int thread = 0; thread < 7; thread++) {
            broken.lead(0, -1, 1);
        }
        broken.lead(0, -1, 2);
        for (int thread = 0; thread < 7; thread++) {
            check.is("hindered", broken.pull(thread), -2);
            check.is("broken ones", broken.count(5), thread + 1);
            check.is("loose ones", broken.count(4), 7 - thread);
            check.is("threads", broken.count(3), 8);
        }
        check.is("the strongest one", broken.pull(7), 8);
    }

    private static void countPulls() {
        check.sentence("6 pulls that were done in all, 7 pulls that were not");
        BottleShip x = Ships.withMasts(10, 20);
        check.throwsIndex(x, "without threads", () -> x.pull(0));
        x.lead(0, -1, 8);
        x.pull(0);
        x.glue(0);
        check.throwsState(x, "glued", () -> x.pull(0));
        x.lead(0, -1, 8);
        check.is("held", x.pull(1), -1);
        x.glue(0);
        x.lead(1, -1, 9);
        check.is("hindered", x.pull(1), -2);
        check.is("done", x.pull(2), 8);
        x.setBottle(20, 5, 90, 0);
        check.is("it fits", x.ship(4), 1);
        Ships.inside(x);
        check.is("would not fit", x.pull(2), -3);
        check.is("done in all", x.count(6), 2);
        check.is("not done", x.count(7), 3);
    }

    private static void tellingChangesNothing() {
        check.sentence("mast, thread, ship and count change nothing");
        for (BottleShip x : new BottleShip[] {
            new BottleShip(), Ships.full(), Ships.inside(Ships.full()), Ships.falling(4, 2)}) {
            String before = Told.all(x);
            check.is("told twice", Told.all(x), before);
        }
    }
}

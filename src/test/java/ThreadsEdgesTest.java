/** Promises 9 to 11, and the terms threads and pulling: every sentence that names an edge. */
public final class ThreadsEdgesTest {
    private static final Check check = new Check("ThreadsEdgesTest");
    private static final int LEAST = Integer.MIN_VALUE;
    private static final int MOST = Integer.MAX_VALUE;

    public static void main(String[] args) {
        pullNumbers();
        pullState();
        pullDone();
        othersLean();
        othersAreHeld();
        othersByLooseThreads();
        heldOrUpright();
        held();
        crossedByStronger();
        crossedByLoose();
        wouldNotFit();
        wouldNotFitOutside();
        fitsAgain();
        reasonsInOrder();
        wear();
        notDoneChangesNothingElse();
        glueNumbers();
        glueState();
        crossNumbers();
        crossEdges();
        crossOfBroken();
        check.end();
    }

    private static void leans(String what, BottleShip x, int... due) {
        for (int mast = 0; mast < due.length; mast++) {
            check.is(what + ", lean of " + mast, x.mast(mast, 2), due[mast]);
        }
    }

    private static void pullNumbers() {
        check.sentence("pull: IndexOutOfBoundsException if there is no such thread");
        BottleShip none = Ships.withMasts(10, 20);
        for (int thread : new int[] {-1, 0, 1, 7, 8, LEAST, MOST}) {
            check.throwsIndex(none, thread + " of 0", () -> none.pull(thread));
        }
        BottleShip full = Ships.full();
        for (int thread : new int[] {-1, 8, LEAST, MOST}) {
            check.throwsIndex(full, thread + " of 8", () -> full.pull(thread));
        }
        check.is("the first one", full.pull(0), 8);
        check.is("the last one", full.pull(7), 7);
    }

    private static void pullState() {
        check.sentence("pull: IllegalStateException if it is not loose");
        BottleShip x = Ships.withMasts(10, 20);
        x.lead(0, -1, 1);
        x.lead(1, -1, 9);
        x.glue(0);
        check.throwsState(x, "glued", () -> x.pull(0));
        x.glue(0);
        check.is("loose, but hindered", x.pull(0), -2);
        check.throwsState(x, "broken", () -> x.pull(0));
        check.is("pulls that were not done", x.count(7), 1);
        BottleShip upright = Ships.withMasts(10);
        upright.lead(0, -1, 9);
        Ships.pull(upright, 0, 9);
        upright.glue(0);
        check.throwsState(upright, "glued, its mast upright and held", () -> upright.pull(0));
    }

    private static void pullDone() {
        check.sentence("this leans 1 less .. Returns the lean of its mast then, if the pull is done");
        BottleShip x = Ships.withMasts(10, 20, 30);
        x.lead(1, -1, 5);
        for (int lean = 8; lean >= 0; lean--) {
            check.is("pull", x.pull(0), lean);
            leans("pulled", x, 9, lean, 9);
            check.is("done", x.count(6), 9 - lean);
        }
        check.is("one more", x.pull(0), -1);
        leans("one more", x, 9, 0, 9);
        check.is("done", x.count(6), 9);
        check.is("not done", x.count(7), 1);
    }

    private static void othersLean() {
        check.sentence("each other mast to which a loose thread leads from it, and that is neither held nor flat");
        for (int lean = 0; lean <= 9; lean++) {
            BottleShip x = Ships.withMasts(10, 20);
            x.lead(0, -1, 5);
            x.lead(1, 0, 5);
            Ships.pull(x, 0, 9 - lean);
            check.is("pull beside a lean of " + lean, x.pull(1), 8);
            leans("beside a lean of " + lean, x, Math.min(9, lean + 1), 8);
        }

        BottleShip none = Ships.withMasts(10, 20, 30);
        none.lead(0, -1, 5);
        none.lead(1, -1, 5);
        none.lead(2, 1, 5);
        Ships.pull(none, 0, 4);
        Ships.pull(none, 1, 1);
        leans("no thread leads to a mast from it", none, 5, 8, 9);
        check.is("it leads to mast 1", none.pull(2), 8);
        leans("it leads to one of them", none, 5, 9, 8);

        BottleShip both = Ships.withMasts(10, 20, 30);
        both.lead(0, -1, 5);
        both.lead(1, -1, 5);
        both.lead(2, 0, 5);
        both.lead(2, 1, 5);
        Ships.pull(both, 0, 9);
        Ships.pull(both, 1, 1);
        check.is("it leads to both", both.pull(2), 8);
        leans("it leads to both", both, 1, 9, 8);
    }

    private static void othersAreHeld() {
        check.sentence("neither held: a held mast does not lean more");
        for (int lean = 0; lean <= 9; lean++) {
            BottleShip x = Ships.withMasts(10, 20);
            x.lead(0, -1, 5);
            x.lead(1, 0, 5);
            Ships.pull(x, 0, 9 - lean);
            x.glue(0);
            Ships.pull(x, 1, 3);
            leans("held at " + lean, x, lean, 6);
            x.glue(0);
            Ships.pull(x, 1, 1);
            leans("held no more", x, Math.min(9, lean + 1), 5);
        }
    }

    private static void othersByLooseThreads() {
        check.sentence("a loose thread leads from it: not a glued one, not a broken one, and once with two");
        BottleShip x = Ships.withMasts(10, 20);
        x.lead(0, -1, 5);
        x.lead(1, -1, 5);
        x.lead(1, 0, 5);
        x.lead(1, 0, 5);
        Ships.pull(x, 0, 5);
        check.is("pull the one to the bow", x.pull(1), 8);
        leans("two threads, once", x, 5, 8);

        // The thread from mast 1 to mast 0 breaks before it lowers that.
        BottleShip y = Ships.withMasts(10, 20, 30);
        y.lead(1, 0, 1);
        y.lead(2, 0, 9);
        y.lead(0, -1, 9);
        y.lead(1, -1, 9);
        check.is("hindered by the one from mast 2", y.pull(0), -2);
        check.is("broken", y.thread(0, 3), 2);
        Ships.pull(y, 2, 3);
        Ships.pull(y, 3, 1);
        leans("a broken one lowers nothing", y, 6, 8, 9);
        Ships.pull(y, 1, 1);
        leans("a loose one does", y, 7, 8, 8);
    }

    private static void heldOrUpright() {
        check.sentence("otherwise -1 because the mast is held or upright");
        BottleShip x = Ships.withMasts(10);
        x.lead(0, -1, 1);
        x.lead(0, -1, 1);
        x.glue(1);
        check.is("held and flat", x.pull(0), -1);
        x.glue(1);
        Ships.pull(x, 0, 8);
        x.glue(1);
        check.is("held at 1", x.pull(0), -1);
        x.glue(1);
        check.is("not upright at 1", x.pull(0), 0);
        check.is("upright", x.pull(0), -1);
        x.glue(1);
        check.is("both", x.pull(0), -1);
        check.is("its strength stays", x.thread(0, 2), 1);
        check.is("loose", x.thread(0, 3), 0);
        check.is("done", x.count(6), 9);
        check.is("not done", x.count(7), 4);
    }

    private static void held() {
        check.sentence("A mast is held, if a glued thread leads from it.");
        BottleShip x = Ships.withMasts(10, 20);
        x.lead(1, 0, 5);
        x.lead(0, -1, 5);
        x.glue(0);
        check.is("it leads from mast 1", x.mast(1, 6), 1);
        check.is("it leads to mast 0", x.mast(0, 6), 0);
        check.is("pull at mast 0", x.pull(1), 8);
        x.lead(1, -1, 5);
        check.is("pull at mast 1", x.pull(2), -1);
        x.glue(2);
        x.glue(0);
        check.is("one of two is enough", x.mast(1, 6), 1);
        check.is("pull at mast 1", x.pull(0), -1);
        x.glue(2);
        check.is("none holds it", x.mast(1, 6), 0);
        check.is("pull at mast 1", x.pull(0), 8);
        BottleShip loose = Ships.withMasts(10);
        check.is("no thread", loose.mast(0, 6), 0);
        loose.lead(0, -1, 5);
        check.is("a loose one", loose.mast(0, 6), 0);
    }

    private static void crossedByStronger() {
        check.sentence("nor if another loose thread crosses this one that has more strength");
        for (int mine = 1; mine <= 9; mine++) {
            for (int other = 1; other <= 9; other++) {
                BottleShip x = Ships.withMasts(10, 20);
                x.lead(0, -1, mine);
                x.lead(1, -1, other);
                check.is(mine + " crossed by " + other, x.pull(0), other > mine ? -2 : 8);
                check.is("strength then", x.thread(0, 2), other > mine ? mine - 1 : mine);
                check.is("strength of the other one", x.thread(1, 2), other);
            }
        }
        BottleShip meets = Ships.withMasts(10, 20);
        meets.lead(0, -1, 1);
        meets.lead(1, 0, 9);
        check.is("a stronger one only meets it", meets.pull(0), 8);
        BottleShip shares = Ships.withMasts(10, 11, 12);
        shares.lead(1, 0, 1);
        shares.lead(2, 0, 9);
        check.is("a stronger one shares a single place's way", shares.pull(0), -2);
        BottleShip same = Ships.withMasts(10);
        same.lead(0, -1, 8);
        same.lead(0, -1, 9);
        check.is("a stronger one of the same mast", same.pull(0), -2);
        check.is("the stronger one itself", same.pull(1), 8);
    }

    private static void crossedByLoose() {
        check.sentence("another loose thread: not a glued one, not a broken one");
        BottleShip x = Ships.withMasts(10, 20);
        x.lead(0, -1, 5);
        x.lead(1, -1, 6);
        x.glue(1);
        check.is("glued", x.pull(0), 8);
        x.glue(1);
        check.is("loose", x.pull(0), -2);

        BottleShip y = Ships.withMasts(10, 20, 30);
        y.lead(0, -1, 1);
        y.lead(1, -1, 2);
        y.lead(2, 1, 2);
        y.lead(2, -1, 3);
        check.is("worn", y.pull(1), -2);
        check.is("broken", y.pull(1), -2);
        y.glue(3);
        check.is("a broken one hinders no more", y.pull(0), 8);
    }

    /** A thread that raises a mast 9 high at the place 10, in a belly of this height. */
    private static BottleShip below(int ceiling, int putty, int strength) {
        BottleShip x = new BottleShip();
        x.setBottle(8, ceiling, 60, putty);
        x.step(10, 9);
        x.lead(0, -1, strength);
        return Ships.inside(x);
    }

    private static void wouldNotFit() {
        check.sentence("nor if the ship is in the bottle, and would not fit then");
        for (int room = 0; room <= 9; room++) {
            BottleShip x = below(6 + room, 2, 9);
            for (int pull = 1; pull <= room; pull++) {
                check.is("room for " + room + ", pull " + pull, x.pull(0), 9 - pull);
            }
            check.is("as much as fits", x.ship(1), 4 + room);
            check.is("room for " + room + ", one more", x.pull(0), room == 9 ? -1 : -3);
            leans("room for " + room, x, 9 - room);
            check.is("its strength", x.thread(0, 2), room == 9 ? 9 : 8);
        }

        // Mast 0 leans 4 at the place 35; each pull at mast 1 lets it reach 1 further.
        for (int length = 40; length <= 42; length++) {
            BottleShip x = new BottleShip();
            x.setBottle(20, 60, length, 0);
            x.step(35, 9);
            x.step(5, 9);
            x.lead(0, -1, 9);
            x.lead(1, 0, 9);
            Ships.pull(x, 0, 5);
            Ships.inside(x);
            Ships.pull(x, 1, length - 39);
            check.is("to the end of the belly", x.ship(2), length);
            check.is("beyond it", x.pull(1), -3);
            leans("refused", x, length - 35, 9 - (length - 39));
            x.glue(0);
            check.is("it is held, and reaches no further", x.pull(1), 9 - (length - 38));
        }
    }

    private static void wouldNotFitOutside() {
        check.sentence("nor if the ship is in the bottle: outside it need not fit");
        BottleShip x = new BottleShip();
        x.setBottle(8, 5, 40, 0);
        x.step(10, 50);
        x.lead(0, -1, 1);
        check.is("it does not fit", x.ship(4), 0);
        for (int lean = 8; lean >= 0; lean--) {
            check.is("pull", x.pull(0), lean);
        }
    }

    private static void fitsAgain() {
        check.sentence("and would not fit then: not that it does not fit before");
        for (int length : new int[] {46, 47}) {
            BottleShip x = new BottleShip();
            x.setBottle(20, 60, length, 0);
            x.step(39, 9);
            x.step(20, 2);
            x.lead(0, -1, 1);
            Ships.pull(x, 0, 2);
            Ships.inside(x);
            x.lead(1, -1, 9);
            check.is("break its thread", x.pull(0), -2);
            check.is("it falls", x.pass(2), 1);
            check.is("it does not fit", x.ship(4), 0);
            x.lead(0, -1, 9);
            check.is("an end of 47 in a belly of " + length, x.pull(2), length == 47 ? 8 : -3);
        }
    }

    private static void reasonsInOrder() {
        check.sentence("-1 because the mast is held or upright, -2 because of another thread, -3 because the ship would not fit");
        BottleShip x = below(5, 1, 7);
        check.is("would not fit", x.pull(0), -3);
        x.lead(0, -1, 8);
        check.is("crossed, and would not fit", x.pull(0), -2);
        x.lead(0, -1, 1);
        x.glue(2);
        check.is("held, crossed, and would not fit", x.pull(0), -1);
        x.glue(1);
        check.is("held, and would not fit", x.pull(0), -1);
        x.glue(2);
        x.glue(1);
        check.is("crossed again", x.pull(0), -2);
        check.is("its strength", x.thread(0, 2), 4);

        BottleShip upright = below(13, 0, 5);
        Ships.pull(upright, 0, 9);
        upright.lead(0, -1, 9);
        check.is("upright and crossed", upright.pull(0), -1);
        check.is("its strength", upright.thread(0, 2), 5);
    }

    private static void wear() {
        check.sentence("its strength is 1 less; with 0 it is broken");
        for (int strength = 1; strength <= 8; strength++) {
            BottleShip x = Ships.withMasts(10, 20);
            x.lead(0, -1, strength);
            x.lead(1, -1, 9);
            for (int left = strength - 1; left >= 0; left--) {
                check.is("hindered", x.pull(0), -2);
                check.is("strength", x.thread(0, 2), left);
                check.is("broken", x.thread(0, 3), left == 0 ? 2 : 0);
                check.is("broken ones", x.count(5), left == 0 ? 1 : 0);
                check.is("loose ones", x.count(4), left == 0 ? 1 : 2);
            }
            check.throwsState(x, "not loose any more", () -> x.pull(0));
            check.is("not done", x.count(7), strength);
        }
        BottleShip x = below(5, 1, 9);
        for (int left = 8; left >= 0; left--) {
            check.is("would not fit", x.pull(0), -3);
            check.is("strength", x.thread(0, 2), left);
            check.is("broken", x.thread(0, 3), left == 0 ? 2 : 0);
        }
        check.throwsState(x, "not loose any more", () -> x.pull(0));
        check.is("not done", x.count(7), 9);
    }

    private static void notDoneChangesNothingElse() {
        check.sentence("This is not done: no mast leans otherwise, and no other thread is worn");
        BottleShip x = Ships.withMasts(10, 20, 30);
        x.lead(0, -1, 5);
        x.lead(1, -1, 5);
        x.lead(2, 0, 5);
        Ships.pull(x, 0, 4);
        Ships.pull(x, 1, 3);
        x.lead(2, -1, 9);
        check.is("hindered", x.pull(2), -2);
        leans("hindered", x, 5, 6, 9);
        int[] strengths = {5, 5, 4, 9};
        for (int thread = 0; thread < 4; thread++) {
            check.is("strength of " + thread, x.thread(thread, 2), strengths[thread]);
        }
        check.is("done", x.count(6), 7);
        check.is("not done", x.count(7), 1);
        check.is("hour", x.count(0), 0);
    }

    private static void glueNumbers() {
        check.sentence("glue: IndexOutOfBoundsException if there is no such thread");
        BottleShip none = Ships.withMasts(10, 20);
        for (int thread : new int[] {-1, 0, 1, 7, 8, LEAST, MOST}) {
            check.throwsIndex(none, thread + " of 0", () -> none.glue(thread));
        }
        BottleShip full = Ships.full();
        for (int thread : new int[] {-1, 8, LEAST, MOST}) {
            check.throwsIndex(full, thread + " of 8", () -> full.glue(thread));
        }
        check.is("the first one", full.glue(0), 1);
        check.is("the last one", full.glue(7), 1);
    }

    private static void glueState() {
        check.sentence("Returns 1 if it is glued then, 0 if it is loose.");
        BottleShip x = Ships.withMasts(10, 20);
        x.lead(0, -1, 2);
        x.lead(1, -1, 9);
        for (int i = 0; i < 3; i++) {
            check.is("glue", x.glue(0), 1);
            check.is("glued", x.thread(0, 3), 1);
            check.is("loose ones", x.count(4), 1);
            check.is("loosen", x.glue(0), 0);
            check.is("loose", x.thread(0, 3), 0);
            check.is("loose ones", x.count(4), 2);
        }

        check.sentence("glue: IllegalStateException if it is broken");
        x.pull(0);
        check.is("with strength 1", x.glue(0), 1);
        check.is("with strength 1", x.glue(0), 0);
        x.pull(0);
        check.throwsState(x, "with strength 0", () -> x.glue(0));
        check.throwsState(x, "again", () -> x.glue(0));
        check.is("the other one", x.glue(1), 1);
    }

    private static void crossNumbers() {
        check.sentence("cross: IndexOutOfBoundsException if there is no such thread");
        BottleShip none = Ships.withMasts(10, 20);
        check.throwsIndex(none, "0 of 0", () -> none.cross(0, 0));
        BottleShip full = Ships.full();
        for (int thread : new int[] {-1, 8, LEAST, MOST}) {
            check.throwsIndex(full, "this one is " + thread, () -> full.cross(thread, 0));
            check.throwsIndex(full, "the other one is " + thread, () -> full.cross(0, thread));
            check.throwsIndex(full, "both are " + thread, () -> full.cross(thread, thread));
        }
        check.is("the first and the last one", full.cross(0, 7), false);
        check.is("the last and the first one", full.cross(7, 0), false);
        check.is("the last two", full.cross(6, 7), true);

        check.sentence("a thread does not cross itself");
        for (int thread = 0; thread < 8; thread++) {
            check.is("itself " + thread, full.cross(thread, thread), false);
        }
    }

    /** Whether a thread from a to b and one from c to d cross; the place 0 is the bow. */
    private static boolean crosses(int a, int b, int c, int d) {
        BottleShip x = Ships.wide();
        int[] places = {a, b, c, d};
        int[] masts = new int[4];
        for (int i = 0; i < 4; i++) {
            masts[i] = -1;
            for (int m = 0; m < x.count(1); m++) {
                masts[i] = x.mast(m, 0) == places[i] ? m : masts[i];
            }
            if (masts[i] < 0 && places[i] > 0) {
                masts[i] = x.step(places[i], 9);
            }
        }
        x.lead(masts[0], masts[1], 5);
        x.lead(masts[2], masts[3], 5);
        check.is("either way", x.cross(0, 1), x.cross(1, 0));
        check.is("crossed ones", x.thread(0, 4), x.cross(0, 1) ? 1 : 0);
        return x.cross(0, 1);
    }

    private static void crossEdges() {
        check.sentence("if the greater one of their lesser places is less than the lesser one of their greater places");
        check.is("both to the bow", crosses(10, 0, 20, 0), true);
        check.is("they meet at 10", crosses(10, 0, 20, 10), false);
        check.is("they meet at 10, led otherwise", crosses(10, 0, 10, 20), false);
        check.is("they meet at 10, both between masts", crosses(5, 10, 20, 10), false);
        check.is("one within the other", crosses(10, 11, 20, 0), true);
        check.is("the same way", crosses(10, 20, 20, 10), true);
        check.is("the same beginning", crosses(10, 20, 10, 30), true);
        check.is("the same end", crosses(10, 30, 20, 30), true);
        check.is("apart", crosses(10, 0, 20, 30), false);
        check.is("apart by 1", crosses(10, 0, 11, 30), false);
        check.is("they share 1", crosses(1, 0, 40, 0), true);

        check.sentence("Each spans from the lesser one to the greater one of both places.");
        BottleShip bow = Ships.withMasts(0, 10);
        bow.lead(0, -1, 5);
        bow.lead(1, -1, 5);
        bow.lead(1, 0, 5);
        bow.lead(0, 1, 5);
        check.is("no way at all", bow.cross(0, 1), false);
        check.is("no way at all", bow.cross(1, 0), false);
        check.is("no way at all", bow.thread(0, 4), 0);
        check.is("a mast at the bow is as far as the bow", bow.cross(1, 2), true);
        check.is("led the other way", bow.cross(2, 3), true);
    }

    private static void crossOfBroken() {
        check.sentence("Two threads that are not broken cross");
        BottleShip x = Ships.withMasts(10, 20);
        x.lead(0, -1, 1);
        x.lead(0, -1, 1);
        x.lead(1, -1, 9);
        x.glue(0);
        x.glue(2);
        check.is("both glued", x.cross(0, 2), true);
        check.is("one glued", x.cross(1, 2), true);
        x.glue(0);
        x.glue(2);
        x.pull(0);
        check.is("this one is broken", x.cross(0, 2), false);
        check.is("the other one is broken", x.cross(2, 0), false);
        check.is("crossed ones of it", x.thread(0, 4), 0);
        check.is("crossed ones of the other", x.thread(2, 4), 1);
        x.pull(1);
        check.is("both are broken", x.cross(0, 1), false);
        check.is("a broken one and itself", x.cross(0, 0), false);
        check.is("crossed ones of the other", x.thread(2, 4), 0);
    }
}

/** If several exceptions apply, the one that is named first is thrown, and nothing is changed. */
public final class ExceptionOrderTest {
    private static final Check check = new Check("ExceptionOrderTest");

    public static void main(String[] args) {
        check.sentence("If several exceptions apply, the one that is named first is thrown.");
        setBottle();
        setHull();
        step();
        yardNoMast();
        yardNoWidth();
        leadNoMast();
        leadNoStrength();
        pullAndGlue();
        tellingOfNone();
        check.end();
    }

    private static void setBottle() {
        BottleShip in = Ships.inside(new BottleShip());
        int[][] wrong = {
            {0, 30, 60, 0}, {21, 30, 60, 0}, {8, 4, 60, 0}, {8, 61, 60, 0},
            {8, 30, 9, 0}, {8, 30, 91, 0}, {8, 30, 60, -1}, {8, 30, 60, 21}, {0, 4, 9, -1},
        };
        for (int[] w : wrong) {
            check.throwsArgument(in, "setBottle, number and inside", () -> in.setBottle(w[0], w[1], w[2], w[3]));
        }
        check.throwsState(in, "setBottle, inside alone", () -> in.setBottle(8, 30, 60, 0));
    }

    private static void setHull() {
        BottleShip in = Ships.inside(new BottleShip());
        BottleShip masted = Ships.withMasts(10);
        BottleShip both = Ships.inside(Ships.withMasts(10));
        int[][] wrong = {{4, 4, 5}, {81, 4, 5}, {40, 0, 5}, {40, 16, 5}, {40, 4, 0}, {40, 4, 16}, {4, 0, 16}};
        for (int[] w : wrong) {
            check.throwsArgument(in, "setHull, number and inside", () -> in.setHull(w[0], w[1], w[2]));
            check.throwsArgument(masted, "setHull, number and mast", () -> masted.setHull(w[0], w[1], w[2]));
            check.throwsArgument(both, "setHull, all", () -> both.setHull(w[0], w[1], w[2]));
        }
        check.throwsState(both, "setHull, inside and mast", () -> both.setHull(40, 4, 5));
    }

    private static void step() {
        BottleShip in = Ships.inside(Ships.withMasts(10));
        BottleShip three = Ships.withMasts(10, 20, 30);
        BottleShip all = Ships.inside(Ships.withMasts(10, 20, 30));
        for (int[] w : new int[][] {{-1, 9}, {41, 9}, {10, 0}, {10, 51}, {5, 0}, {5, 51}, {-1, 0}}) {
            check.throwsArgument(in, "step, number and inside", () -> in.step(w[0], w[1]));
            check.throwsArgument(three, "step, number and 3", () -> three.step(w[0], w[1]));
            check.throwsArgument(all, "step, all", () -> all.step(w[0], w[1]));
        }
        check.throwsState(in, "step, inside and place", () -> in.step(10, 9));
        check.throwsState(three, "step, 3 and place", () -> three.step(10, 9));
        check.throwsState(all, "step, inside, 3 and place", () -> all.step(10, 9));
    }

    private static void yardNoMast() {
        BottleShip none = new BottleShip();
        BottleShip in = Ships.inside(Ships.withMasts(10));
        BottleShip full = Ships.full();
        for (int width : new int[] {0, 21, 5}) {
            for (int mast : new int[] {-1, 3}) {
                check.throwsIndex(none, "yard, mast and width", () -> none.yard(mast, width));
                check.throwsIndex(in, "yard, mast, width and inside", () -> in.yard(mast, width));
                check.throwsIndex(full, "yard, mast and width", () -> full.yard(mast, width));
            }
            check.throwsIndex(in, "yard, mast, width and inside", () -> in.yard(1, width));
        }
    }

    private static void yardNoWidth() {
        BottleShip in = Ships.inside(Ships.withMasts(10));
        BottleShip full = Ships.full();
        BottleShip both = Ships.inside(Ships.full());
        for (int width : new int[] {0, 21}) {
            check.throwsArgument(in, "yard, width and inside", () -> in.yard(0, width));
            check.throwsArgument(full, "yard, width and 3", () -> full.yard(2, width));
            check.throwsArgument(both, "yard, width, inside and 3", () -> both.yard(2, width));
        }
        check.throwsState(both, "yard, inside and 3", () -> both.yard(2, 5));
    }

    private static void leadNoMast() {
        BottleShip none = new BottleShip();
        BottleShip two = Ships.withMasts(10, 20);
        BottleShip full = Ships.full();
        for (int strength : new int[] {0, 10, 5}) {
            for (int mast : new int[] {-2, -1, 3}) {
                check.throwsIndex(none, "lead, both the same and none", () -> none.lead(mast, mast, strength));
                check.throwsIndex(two, "lead, mast and strength", () -> two.lead(mast, 0, strength));
                check.throwsIndex(two, "lead, both the same and none", () -> two.lead(mast, mast, strength));
                check.throwsIndex(full, "lead, mast, strength and 8", () -> full.lead(mast, 0, strength));
                check.throwsIndex(full, "lead, all", () -> full.lead(mast, mast, strength));
            }
            for (int to : new int[] {-2, 3}) {
                check.throwsIndex(two, "lead, other one and strength", () -> two.lead(0, to, strength));
                check.throwsIndex(full, "lead, other one, strength and 8", () -> full.lead(0, to, strength));
            }
            check.throwsIndex(two, "lead, the same number, and no mast", () -> two.lead(2, 2, strength));
        }
    }

    private static void leadNoStrength() {
        BottleShip two = Ships.withMasts(10, 20);
        BottleShip full = Ships.full();
        for (int strength : new int[] {0, 10}) {
            check.throwsArgument(two, "lead, the same and strength", () -> two.lead(1, 1, strength));
            check.throwsArgument(full, "lead, strength and 8", () -> full.lead(0, 1, strength));
            check.throwsArgument(full, "lead, strength and 8", () -> full.lead(0, -1, strength));
            check.throwsArgument(full, "lead, the same, strength and 8", () -> full.lead(1, 1, strength));
        }
        check.throwsArgument(full, "lead, the same and 8", () -> full.lead(2, 2, 5));
        check.throwsState(full, "lead, 8 alone", () -> full.lead(0, 1, 5));
    }

    /** A thread that is not there is neither loose nor broken; what is not loose need not be pulled in vain. */
    private static void pullAndGlue() {
        BottleShip x = Ships.falling(new int[] {1, 2}, new int[2]);
        x.lead(0, -1, 9);
        x.glue(2);
        for (int thread : new int[] {-1, 3, 8}) {
            check.throwsIndex(x, "pull, no thread", () -> x.pull(thread));
            check.throwsIndex(x, "glue, no thread", () -> x.glue(thread));
        }
        check.throwsState(x, "pull, broken, its mast held", () -> x.pull(0));
        check.throwsState(x, "pull, broken, hindered by the ceiling", () -> x.pull(1));
        check.throwsState(x, "pull, glued, its mast held", () -> x.pull(2));
        check.throwsState(x, "glue, broken", () -> x.glue(0));
        check.is("pulls that were not done", x.count(7), 2);
    }

    private static void tellingOfNone() {
        BottleShip x = Ships.full();
        for (int number : new int[] {-1, 8}) {
            for (int what : new int[] {-1, 8}) {
                check.throwsIndex(x, "mast, both", () -> x.mast(number, what));
                check.throwsIndex(x, "thread, both", () -> x.thread(number, what));
                check.throwsIndex(x, "cross, both", () -> x.cross(number, what));
            }
        }
    }
}

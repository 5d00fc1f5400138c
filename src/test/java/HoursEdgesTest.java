/** Promises 16 and 20, and the term of an hour: every sentence that names an edge. */
public final class HoursEdgesTest {
    private static final Check check = new Check("HoursEdgesTest");
    private static final int[] FALL = {1, 1, 2, 2};

    public static void main(String[] args) {
        passNumbers();
        passHour();
        passAtMostFlat();
        passManyHours();
        passKept();
        passFlatOnes();
        passAllAtOnce();
        passOtherwise();
        fallsNone();
        fallsAlready();
        fallsHours();
        fallsTheLongest();
        fallsNever();
        check.end();
    }

    private static void leans(String what, BottleShip x, int... due) {
        for (int mast = 0; mast < due.length; mast++) {
            check.is(what + ", lean of " + mast, x.mast(mast, 2), due[mast]);
        }
    }

    private static void passNumbers() {
        check.sentence("IllegalArgumentException if hours is not 1 to 50");
        BottleShip none = new BottleShip();
        BottleShip falling = Ships.falling(1, 0);
        for (int hours : new int[] {0, 51, -1, -50, Integer.MIN_VALUE, Integer.MAX_VALUE}) {
            check.throwsArgument(none, "pass " + hours, () -> none.pass(hours));
            check.throwsArgument(falling, "pass " + hours, () -> falling.pass(hours));
        }
        check.is("without masts, an hour", none.pass(1), 0);
        check.is("without masts, 50 hours", none.pass(50), 0);
        check.is("an hour", falling.pass(1), 0);
        leans("an hour", falling, 2);
        check.is("50 hours", falling.pass(50), 1);
        leans("50 hours", falling, 9);
    }

    private static void passHour() {
        check.sentence("Time is told in hours, from 0. .. Then the hour is 1 greater.");
        BottleShip x = new BottleShip();
        check.is("at first", x.count(0), 0);
        x.pass(1);
        check.is("an hour", x.count(0), 1);
        x.pass(50);
        check.is("50 more", x.count(0), 51);
        check.throwsArgument(x, "none", () -> x.pass(0));
        check.throwsArgument(x, "too many", () -> x.pass(51));
        x.pass(2);
        check.is("2 more", x.count(0), 53);
    }

    private static void passAtMostFlat() {
        check.sentence("leans 1 more, and 1 more besides with two or more yards (at most 9)");
        for (int yards = 0; yards <= 3; yards++) {
            for (int lean = 1; lean <= 8; lean++) {
                BottleShip x = Ships.falling(lean, yards);
                int due = lean;
                for (int hour = 1; hour <= 9; hour++) {
                    boolean becomesFlat = due < 9 && due + FALL[yards] >= 9;
                    due = Math.min(9, due + FALL[yards]);
                    String who = yards + " yards, from " + lean + ", hour " + hour;
                    check.is(who, x.pass(1), becomesFlat ? 1 : 0);
                    leans(who, x, due);
                }
            }
        }
    }

    private static void passManyHours() {
        check.sentence("Lets hours go by: as many, one after the other");
        for (int yards = 0; yards <= 3; yards++) {
            for (int hours = 1; hours <= 50; hours++) {
                BottleShip x = Ships.falling(1, yards);
                int due = Math.min(9, 1 + hours * FALL[yards]);
                check.is(yards + " yards, " + hours + " hours", x.pass(hours), due == 9 ? 1 : 0);
                leans(yards + " yards, " + hours + " hours", x, due);
                check.is("the hour", x.count(0), hours);
            }
        }
    }

    private static void passKept() {
        check.sentence("each mast that is not held, not flat, and from which no loose thread leads");
        BottleShip x = Ships.withMasts(10, 20);
        x.lead(0, -1, 5);
        Ships.pull(x, 0, 9);
        check.is("a loose thread", x.pass(50), 0);
        leans("a loose thread", x, 0, 9);
        x.glue(0);
        check.is("held", x.pass(50), 0);
        leans("held", x, 0, 9);
        x.glue(0);
        check.is("loose again", x.pass(1), 0);
        leans("loose again", x, 0, 9);

        BottleShip y = Ships.falling(new int[] {3, 5}, new int[] {0, 2});
        y.lead(1, 0, 5);
        check.is("a loose thread keeps the mast from which it leads alone", y.pass(1), 0);
        leans("led to", y, 4, 5);
        y.glue(2);
        check.is("a glued one holds the mast from which it leads alone", y.pass(1), 0);
        leans("led to by a glued one", y, 5, 5);
        y.lead(0, -1, 1);
        check.is("a loose one beside the broken one", y.pass(50), 0);
        leans("a loose one beside the broken one", y, 5, 5);
        y.glue(3);
        check.is("both are held", y.pass(50), 0);
        leans("both are held", y, 5, 5);
    }

    private static void passFlatOnes() {
        check.sentence("Returns how many masts are flat then that were not before.");
        int[][] leans = {{8, 8, 8}, {8, 8, 7}, {8, 7, 8}, {7, 8, 8}, {8, 7, 7}, {7, 7, 8}, {7, 7, 7}};
        int[] atFirst = {3, 2, 2, 2, 1, 1, 0};
        for (int i = 0; i < leans.length; i++) {
            BottleShip x = Ships.falling(leans[i], new int[3]);
            check.is("the first hour", x.pass(1), atFirst[i]);
            check.is("the second hour", x.pass(1), 3 - atFirst[i]);
            check.is("flat before", x.pass(50), 0);
            BottleShip y = Ships.falling(leans[i], new int[3]);
            check.is("both hours in one", y.pass(2), 3);
        }
        BottleShip flat = Ships.withMasts(10, 20, 30);
        check.is("all were flat before", flat.pass(50), 0);
    }

    private static void passAllAtOnce() {
        check.sentence("all at once");
        for (int a = 1; a <= 8; a++) {
            for (int b = 1; b <= 8; b++) {
                BottleShip x = Ships.falling(new int[] {a, b, 4}, new int[] {0, 3, 1});
                int due = (a + 3 >= 9 ? 1 : 0) + (b + 6 >= 9 ? 1 : 0);
                check.is("three hours", x.pass(3), due);
                leans("three hours", x, Math.min(9, a + 3), Math.min(9, b + 6), 7);
            }
        }
    }

    private static void passOtherwise() {
        check.sentence("An hour goes like this: nothing but leans and the hour changes, and nothing hinders it");
        BottleShip x = Ships.falling(new int[] {1}, new int[] {1});
        x.leave();
        x.setBottle(20, 9, 40, 0);
        Ships.inside(x);
        x.lead(0, -1, 3);
        x.glue(1);
        int threads = x.count(5);
        x.pass(50);
        check.is("broken ones", x.count(5), threads);
        check.is("glued", x.thread(1, 3), 1);
        check.is("its strength", x.thread(1, 2), 3);
        check.is("done", x.count(6), 8);
        check.is("not done", x.count(7), 1);

        BottleShip out = Ships.withMasts(39, 10);
        out.lead(0, -1, 1);
        Ships.pull(out, 0, 8);
        out.setBottle(20, 60, 41, 0);
        Ships.inside(out);
        out.lead(1, -1, 9);
        check.is("its thread breaks", out.pull(0), -2);
        check.is("it fits", out.ship(4), 1);
        check.is("it falls beyond the belly", out.pass(50), 1);
        check.is("it fits no more", out.ship(4), 0);
        check.is("it is inside still", out.ship(5), 1);
    }

    private static void fallsNone() {
        check.sentence("0 if they are (also without masts)");
        check.is("a new object", new BottleShip().falls(), 0);
        check.is("in the bottle", Ships.inside(new BottleShip()).falls(), 0);
        BottleShip later = new BottleShip();
        later.pass(50);
        check.is("after hours", later.falls(), 0);
    }

    private static void fallsAlready() {
        check.sentence("0 if they are, whatever keeps them");
        BottleShip x = Ships.withMasts(10, 20, 30);
        check.is("three flat ones", x.falls(), 0);
        x.lead(0, -1, 5);
        check.is("a flat one with a loose thread", x.falls(), 0);
        x.glue(0);
        check.is("a flat one that is held", x.falls(), 0);
        BottleShip fallen = Ships.falling(8, 0);
        fallen.pass(1);
        check.is("a fallen one", fallen.falls(), 0);
    }

    private static void fallsHours() {
        check.sentence("Returns behind how many hours all masts are flat, if nothing is done");
        int[][] due = {
            {0, 8, 7, 6, 5, 4, 3, 2, 1},
            {0, 8, 7, 6, 5, 4, 3, 2, 1},
            {0, 4, 4, 3, 3, 2, 2, 1, 1},
            {0, 4, 4, 3, 3, 2, 2, 1, 1},
        };
        for (int yards = 0; yards <= 3; yards++) {
            for (int lean = 1; lean <= 8; lean++) {
                BottleShip x = Ships.falling(lean, yards);
                String before = Told.all(x);
                for (int left = due[yards][lean]; left >= 0; left--) {
                    check.is(yards + " yards, from " + lean, x.falls(), left);
                    check.is("flat by then alone", x.mast(0, 2) == 9, left == 0);
                    if (left == due[yards][lean]) {
                        check.is("nothing is changed", Told.all(x), before);
                    }
                    x.pass(1);
                }
            }
        }
    }

    private static void fallsTheLongest() {
        check.sentence("all masts are flat");
        for (int a = 1; a <= 8; a++) {
            for (int b = 1; b <= 8; b++) {
                BottleShip x = Ships.falling(new int[] {a, b}, new int[] {2, 1});
                check.is("two masts", x.falls(), Math.max((10 - a) / 2, 9 - b));
                BottleShip y = Ships.falling(new int[] {a, 8, b}, new int[] {1, 0, 2});
                check.is("three masts", y.falls(), Math.max(9 - a, (10 - b) / 2));
            }
        }
    }

    private static void fallsNever() {
        check.sentence("-1 if not by then");
        for (int kept = 0; kept < 3; kept++) {
            BottleShip x = Ships.falling(new int[] {1, 4, 8}, new int[] {0, 1, 2});
            check.is("all fall", x.falls(), 8);
            int thread = x.lead(kept, -1, 5);
            String before = Told.all(x);
            check.is("one has a loose thread", x.falls(), -1);
            check.is("nothing is changed", Told.all(x), before);
            x.glue(thread);
            check.is("one is held", x.falls(), -1);
            x.pass(50);
            check.is("one is held after 50 hours", x.falls(), -1);
        }
        BottleShip upright = Ships.withMasts(10, 20);
        upright.lead(0, -1, 5);
        Ships.pull(upright, 0, 9);
        check.is("an upright one", upright.falls(), -1);
        upright.glue(0);
        check.is("an upright one that is held", upright.falls(), -1);
    }
}

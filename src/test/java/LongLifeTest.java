/** An object is used for at most 512 calls, and is right until the last one of them. */
public final class LongLifeTest {
    private static final Check check = new Check("LongLifeTest");
    private static final int CALLS = 512;

    public static void main(String[] args) {
        check.sentence("An object is used for at most 512 calls after it has been made");
        hours();
        pullsDone();
        pullsNotDone();
        glued();
        inAndOut();
        bottles();
        lookingAhead();
        refused();
        check.end();
    }

    private static void hours() {
        BottleShip x = new BottleShip();
        for (int call = 1; call < CALLS; call++) {
            check.is("pass", x.pass(50), 0);
        }
        check.is("the hour", x.count(0), 50 * (CALLS - 1));
    }

    /** Two masts that let each other down: each pull of one is undone by one of the other. */
    private static void pullsDone() {
        BottleShip x = new BottleShip();
        x.step(10, 9);
        x.step(20, 9);
        x.lead(0, 1, 5);
        x.lead(1, 0, 5);
        for (int call = 5; call < CALLS; call++) {
            check.is("pull", x.pull(call % 2), 8);
        }
        check.is("done", x.count(6), CALLS - 5);
    }

    private static void pullsNotDone() {
        BottleShip x = new BottleShip();
        x.step(10, 9);
        x.lead(0, -1, 1);
        x.lead(0, -1, 1);
        x.glue(1);
        for (int call = 5; call < CALLS; call++) {
            check.is("pull", x.pull(0), -1);
        }
        check.is("not done", x.count(7), CALLS - 5);
    }

    private static void glued() {
        BottleShip x = new BottleShip();
        x.step(10, 9);
        x.lead(0, -1, 1);
        for (int call = 3; call < CALLS; call++) {
            check.is("glue", x.glue(0), call % 2);
        }
        check.is("glued", x.thread(0, 3), 1);
    }

    private static void inAndOut() {
        BottleShip x = new BottleShip();
        for (int call = 1; call < CALLS; call += 2) {
            check.is("enter", x.enter(), true);
            check.is("leave", x.leave(), true);
        }
    }

    private static void bottles() {
        BottleShip x = new BottleShip();
        int before = 8;
        for (int call = 1; call <= CALLS; call++) {
            int neck = 1 + call % 20;
            check.is("setBottle", x.setBottle(neck, 5 + call % 56, 10 + call % 81, call % 21), before);
            before = neck;
        }
    }

    private static void lookingAhead() {
        BottleShip x = Ships.full();
        int fewest = x.fewest();
        int first = x.first();
        for (int call = 0; call < CALLS; call += 4) {
            check.is("fewest", x.fewest(), fewest);
            check.is("first", x.first(), first);
            check.is("least", x.least(call % 3), 0);
            check.is("falls", x.falls(), 0);
        }
    }

    private static void refused() {
        BottleShip x = Ships.full();
        for (int call = 0; call < CALLS / 8; call++) {
            check.throwsState(x, "lead a ninth", () -> x.lead(0, 1, 5));
        }
    }
}

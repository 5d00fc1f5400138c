/** Promise 22: the checksum. */
public final class DigestTest {
    private static final Check check = new Check("DigestTest");

    public static void main(String[] args) {
        check.is("new", new BottleShip().digest(), ofNew());
        written();
        everyNumberCounts();
        check.end();
    }

    static long sum(long... numbers) {
        long d = 823;
        for (long x : numbers) {
            d = d * 31 + x;
        }
        return d;
    }

    static long ofNew() {
        return sum(0, 0, 0, 0, 0, 0, 0, 0, 5, 4, 40, 1, 1, 0, 8, 30, 60, 0, 40, 4, 5);
    }

    private static void written() {
        BottleShip x = new BottleShip();
        x.setBottle(11, 40, 70, 3);
        x.setHull(45, 6, 7);
        x.step(10, 18);
        x.step(20, 9);
        x.yard(0, 8);
        x.yard(0, 6);
        x.yard(1, 13);
        x.lead(0, -1, 5);
        x.lead(1, 0, 6);
        x.lead(1, -1, 4);
        x.pull(0);
        x.pull(2);
        x.pull(0);
        x.glue(0);
        x.glue(0);
        x.glue(1);
        x.pass(7);
        x.enter();
        long due = sum(
            7, 2, 0, 3, 2, 0, 2, 1,
            8, 10, 45, 1, 1, 1,
            11, 40, 70, 3, 45, 6, 7,
            10, 18, 7, 4, 14, 2, 0, 1, 8, 6,
            20, 9, 9, 0, 9, 1, 1, 1, 13,
            0, -1, 5, 0, 1,
            1, 0, 6, 1, 1,
            1, -1, 3, 0, 2);
        check.is("a whole ship", x.digest(), due);
        check.is("twice the same", x.digest(), due);
    }

    private static void everyNumberCounts() {
        BottleShip x = new BottleShip();
        x.setBottle(8, 30, 60, 1);
        check.is("putty", x.digest(),
                sum(0, 0, 0, 0, 0, 0, 0, 0, 5, 4, 40, 1, 1, 0, 8, 30, 60, 1, 40, 4, 5));
        x.pass(50);
        check.is("hours", x.digest(),
                sum(50, 0, 0, 0, 0, 0, 0, 0, 5, 4, 40, 1, 1, 0, 8, 30, 60, 1, 40, 4, 5));
        x.enter();
        check.is("inside", x.digest(),
                sum(50, 0, 0, 0, 0, 0, 0, 0, 5, 4, 40, 1, 1, 1, 8, 30, 60, 1, 40, 4, 5));
    }
}

/** All that a ship tells, as one text: ships of the same text differ in nothing that can be asked. */
final class Told {
    private Told() {
    }

    static String all(BottleShip x) {
        StringBuilder all = new StringBuilder();
        for (int what = 0; what < 8; what++) {
            all.append(x.count(what)).append(' ');
        }
        all.append("; ship ");
        for (int what = 0; what < 6; what++) {
            all.append(x.ship(what)).append(' ');
        }
        for (int mast = 0; mast < x.count(1); mast++) {
            tellMast(x, mast, all);
        }
        for (int thread = 0; thread < x.count(3); thread++) {
            tellThread(x, thread, all);
        }
        all.append("; fewest ").append(x.fewest()).append(" first ").append(x.first());
        all.append(" falls ").append(x.falls()).append(" mean ").append(x.mean());
        return all.append(" digest ").append(x.digest()).toString();
    }

    private static void tellMast(BottleShip x, int mast, StringBuilder all) {
        all.append("; mast ");
        for (int what = 0; what < 8; what++) {
            all.append(x.mast(mast, what)).append(' ');
        }
        all.append("least ").append(x.least(mast));
    }

    private static void tellThread(BottleShip x, int thread, StringBuilder all) {
        all.append("; thread ");
        for (int what = 0; what < 5; what++) {
            all.append(x.thread(thread, what)).append(' ');
        }
        all.append("crosses ");
        for (int other = 0; other < x.count(3); other++) {
            all.append(x.cross(thread, other) ? '1' : '0');
        }
    }
}

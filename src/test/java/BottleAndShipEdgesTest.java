/** Promises 1 to 8, and the terms bottle and ship: every sentence that names an edge. */
public final class BottleAndShipEdgesTest {
    private static final Check check = new Check("BottleAndShipEdgesTest");
    private static final int LEAST = Integer.MIN_VALUE;
    private static final int MOST = Integer.MAX_VALUE;

    public static void main(String[] args) {
        newBottle();
        newShip();
        bottleNumbers();
        bottleInEffect();
        bottleState();
        hullNumbers();
        hullState();
        stepNumbers();
        stepState();
        yardNumbers();
        yardState();
        leadNumbers();
        leadState();
        enterNeck();
        enterBelly();
        enterTwice();
        leave();
        check.end();
    }

    private static BottleShip withHull(int length, int height, int width) {
        BottleShip x = Ships.wide();
        x.setHull(length, height, width);
        return x;
    }

    /** One mast, raised until it leans this. */
    private static BottleShip raised(BottleShip x, int place, int height, int lean) {
        int mast = x.step(place, height);
        Ships.pull(x, x.lead(mast, -1, 9), 9 - lean);
        return x;
    }

    private static void newBottle() {
        check.sentence("Creates a bottle with the neck 8");
        check.is("the neck before", new BottleShip().setBottle(1, 5, 10, 0), 8);
        BottleShip broad = new BottleShip();
        broad.setHull(40, 4, 8);
        check.is("8 wide goes through", broad.ship(3), 1);
        broad.setHull(40, 4, 9);
        check.is("9 wide does not", broad.ship(3), 0);

        check.sentence("the belly 30 high and 60 long, without putty");
        check.is("a top of 30 fits", raised(new BottleShip(), 0, 26, 0).ship(4), 1);
        check.is("a top of 31 does not", raised(new BottleShip(), 0, 27, 0).ship(4), 0);
        check.is("an end of 60 fits", raised(new BottleShip(), 40, 20, 9).ship(4), 1);
        check.is("an end of 61 does not", raised(new BottleShip(), 40, 21, 9).ship(4), 0);
    }

    private static void newShip() {
        check.sentence("a ship 40 long, 4 high and 5 wide, outside, in the hour 0");
        BottleShip x = new BottleShip();
        check.is("breadth", x.ship(0), 5);
        check.is("top", x.ship(1), 4);
        check.is("end", x.ship(2), 40);
        check.is("inside", x.ship(5), 0);
        check.is("leave", x.leave(), false);
        check.is("hour", x.count(0), 0);
        check.is("masts", x.count(1), 0);
        check.is("threads", x.count(3), 0);
        check.throwsArgument(x, "a mast behind its end", () -> x.step(41, 5));
        check.is("a mast at its end", x.step(40, 5), 0);
        check.is("the length before", new BottleShip().setHull(5, 1, 1), 40);
        check.is("two objects are apart", Told.all(new BottleShip()).equals(Told.all(x)), false);
    }

    private static void bottleRange(String sentence, int which, int least, int most) {
        check.sentence(sentence);
        BottleShip x = new BottleShip();
        for (int value : new int[] {least - 1, most + 1, LEAST, MOST}) {
            int[] a = {8, 30, 60, 0};
            a[which] = value;
            check.throwsArgument(x, "with " + value, () -> x.setBottle(a[0], a[1], a[2], a[3]));
        }
        for (int value : new int[] {least, most}) {
            int[] a = {8, 30, 60, 0};
            a[which] = value;
            x.setBottle(7, 31, 61, 1);
            check.is("with " + value, x.setBottle(a[0], a[1], a[2], a[3]), 7);
            check.is("digest with " + value, x.digest(), DigestTest.sum(0, 0, 0, 0, 0, 0, 0, 0,
                    5, 4, 40, a[0] >= 5 ? 1 : 0, a[1] >= 4 + a[3] && a[2] >= 40 ? 1 : 0, 0,
                    a[0], a[1], a[2], a[3], 40, 4, 5));
        }
    }

    private static void bottleNumbers() {
        bottleRange("IllegalArgumentException if neck is not 1 to 20", 0, 1, 20);
        bottleRange("high is not 5 to 60", 1, 5, 60);
        bottleRange("length is not 10 to 90", 2, 10, 90);
        bottleRange("or putty is not 0 to 20", 3, 0, 20);

        check.sentence("Returns the neck before.");
        BottleShip x = new BottleShip();
        check.is("the first one", x.setBottle(1, 5, 10, 0), 8);
        check.throwsArgument(x, "a refused one", () -> x.setBottle(3, 4, 10, 0));
        check.is("the least one, not the refused one", x.setBottle(20, 60, 90, 20), 1);
        check.is("the greatest one", x.setBottle(20, 60, 90, 20), 20);
        check.is("the same one", x.setBottle(2, 5, 10, 0), 20);
    }

    private static void bottleInEffect() {
        check.sentence("It has a neck, 1 to 20 wide, a belly, 5 to 60 high and 10 to 90 long, and putty in it");
        BottleShip least = new BottleShip();
        least.setBottle(1, 5, 10, 0);
        least.setHull(10, 1, 1);
        check.is("through the least neck", least.ship(3), 1);
        least.setHull(10, 1, 2);
        check.is("too wide for the least neck", least.ship(3), 0);
        least.setHull(10, 2, 1);
        check.is("too high for the least neck", least.ship(3), 0);
        least.setHull(10, 5, 1);
        check.is("into the least belly", least.ship(4), 1);
        least.setHull(10, 6, 1);
        check.is("too high for the least belly", least.ship(4), 0);
        least.setHull(11, 5, 1);
        check.is("too long for the least belly", least.ship(4), 0);

        check.is("through the greatest neck", raised(withHull(40, 4, 5), 0, 16, 0).ship(3), 1);
        check.is("too high for the greatest neck", raised(withHull(40, 4, 5), 0, 17, 0).ship(3), 0);
        check.is("into the greatest belly", raised(withHull(40, 10, 5), 0, 50, 0).ship(4), 1);
        check.is("too high for the greatest belly", raised(withHull(40, 11, 5), 0, 50, 0).ship(4), 0);
        check.is("to the end of the greatest belly", raised(withHull(80, 4, 5), 80, 10, 9).ship(4), 1);
        check.is("too long for the greatest belly", raised(withHull(80, 4, 5), 80, 11, 9).ship(4), 0);

        BottleShip putty = withHull(40, 15, 5);
        putty.setBottle(20, 35, 90, 20);
        check.is("upon the most putty", putty.ship(4), 1);
        putty.setBottle(20, 34, 90, 20);
        check.is("too high upon the most putty", putty.ship(4), 0);
        putty.setBottle(20, 15, 90, 0);
        check.is("without putty", putty.ship(4), 1);
        putty.setBottle(20, 15, 90, 1);
        check.is("too high upon the least putty", putty.ship(4), 0);
    }

    private static void bottleState() {
        check.sentence("setBottle: IllegalStateException if the ship is in the bottle");
        BottleShip x = Ships.inside(new BottleShip());
        check.throwsState(x, "inside", () -> x.setBottle(20, 60, 90, 0));
        check.throwsState(x, "inside, the same one", () -> x.setBottle(8, 30, 60, 0));
        check.is("leave", x.leave(), true);
        check.is("outside again", x.setBottle(20, 60, 90, 0), 8);
        BottleShip full = Ships.full();
        check.is("outside, with masts and threads", full.setBottle(1, 5, 10, 20), 20);
        check.is("it fits no more", full.ship(4), 0);
    }

    private static void hullRange(String sentence, int which, int least, int most) {
        check.sentence(sentence);
        BottleShip x = Ships.wide();
        for (int value : new int[] {least - 1, most + 1, LEAST, MOST}) {
            int[] a = {40, 4, 5};
            a[which] = value;
            check.throwsArgument(x, "with " + value, () -> x.setHull(a[0], a[1], a[2]));
        }
        for (int value : new int[] {least, most}) {
            int[] a = {40, 4, 5};
            a[which] = value;
            x.setHull(33, 3, 3);
            check.is("with " + value, x.setHull(a[0], a[1], a[2]), 33);
            check.is("its length with " + value, x.ship(2), a[0]);
            check.is("its height with " + value, x.ship(1), a[1]);
            check.is("its width with " + value, x.ship(0), a[2]);
        }
    }

    private static void hullNumbers() {
        hullRange("IllegalArgumentException if length is not 5 to 80", 0, 5, 80);
        hullRange("or height is not 1 to 15", 1, 1, 15);
        hullRange("or width is not 1 to 15", 2, 1, 15);

        check.sentence("Returns the length before.");
        BottleShip x = new BottleShip();
        check.is("the first one", x.setHull(5, 1, 1), 40);
        check.throwsArgument(x, "a refused one", () -> x.setHull(50, 0, 1));
        check.is("the least one, not the refused one", x.setHull(80, 15, 15), 5);
        check.is("the greatest one", x.setHull(40, 4, 5), 80);
    }

    private static void hullState() {
        check.sentence("setHull: IllegalStateException if there is a mast");
        BottleShip masted = new BottleShip();
        masted.pass(50);
        check.is("no mast after hours", masted.setHull(40, 4, 5), 40);
        masted.step(0, 1);
        check.throwsState(masted, "one mast", () -> masted.setHull(40, 4, 5));
        BottleShip full = Ships.full();
        check.throwsState(full, "three masts", () -> full.setHull(40, 4, 5));

        check.sentence("setHull: or the ship is in the bottle");
        BottleShip x = Ships.inside(new BottleShip());
        check.throwsState(x, "inside", () -> x.setHull(40, 4, 5));
        check.is("leave", x.leave(), true);
        check.is("outside again", x.setHull(41, 4, 5), 40);
        BottleShip both = Ships.inside(Ships.withMasts(3));
        check.throwsState(both, "inside with a mast", () -> both.setHull(40, 4, 5));
        check.is("leave", both.leave(), true);
        check.throwsState(both, "outside with a mast", () -> both.setHull(40, 4, 5));
    }

    private static void stepNumbers() {
        check.sentence("IllegalArgumentException if place is not 0 to the length of the hull");
        for (int length : new int[] {5, 6, 40, 79, 80}) {
            BottleShip x = withHull(length, 4, 5);
            for (int place : new int[] {-1, length + 1, LEAST, MOST}) {
                check.throwsArgument(x, length + " long, at " + place, () -> x.step(place, 9));
            }
            check.is(length + " long, at its end", x.step(length, 9), 0);
            check.is("its place", x.mast(0, 0), length);
            check.is("at the bow", x.step(0, 9), 1);
            check.is("its place", x.mast(1, 0), 0);
        }

        check.sentence("or height is not 1 to 50");
        BottleShip x = Ships.wide();
        for (int height : new int[] {0, 51, LEAST, MOST}) {
            check.throwsArgument(x, "height " + height, () -> x.step(5, height));
        }
        check.is("height 1", x.step(5, 1), 0);
        check.is("its height", x.mast(0, 1), 1);
        check.is("height 50", x.step(6, 50), 1);
        check.is("its height", x.mast(1, 1), 50);

        check.sentence("and has a lean, 0 (upright) to 9 (flat; at first)");
        check.is("the first one", x.mast(0, 2), 9);
        check.is("the second one", x.mast(1, 2), 9);
    }

    private static void stepState() {
        check.sentence("step: IllegalStateException if the ship is in the bottle");
        BottleShip in = Ships.inside(new BottleShip());
        check.throwsState(in, "inside", () -> in.step(5, 9));
        in.leave();
        check.is("outside again", in.step(5, 9), 0);

        check.sentence("step: there are 3");
        BottleShip x = Ships.wide();
        check.is("the first one", x.step(10, 9), 0);
        check.is("the second one", x.step(20, 9), 1);
        check.is("the third one", x.step(30, 9), 2);
        check.throwsState(x, "a fourth one", () -> x.step(40, 9));
        check.throwsState(x, "a fourth one at a mast", () -> x.step(30, 9));
        check.is("masts", x.count(1), 3);

        check.sentence("step: or a mast is at this place");
        BottleShip y = Ships.wide();
        y.step(10, 9);
        check.throwsState(y, "at the first one", () -> y.step(10, 9));
        check.is("beside it, and not refused for the refused one", y.step(11, 9), 1);
        check.throwsState(y, "at the first one", () -> y.step(10, 8));
        check.throwsState(y, "at the second one", () -> y.step(11, 8));
        check.is("on the other side", y.step(9, 9), 2);
        BottleShip bow = Ships.wide();
        bow.step(0, 9);
        check.throwsState(bow, "at the bow", () -> bow.step(0, 9));
        BottleShip end = Ships.wide();
        end.step(40, 9);
        check.throwsState(end, "at the end", () -> end.step(40, 9));
    }

    private static void yardNumbers() {
        check.sentence("yard: IndexOutOfBoundsException if there is no such mast");
        BottleShip x = Ships.wide();
        for (int masts = 0; masts < 3; masts++) {
            int there = masts;
            for (int mast : new int[] {-1, there, 3, LEAST, MOST}) {
                check.throwsIndex(x, mast + " of " + there, () -> x.yard(mast, 5));
            }
            x.step(10 * there, 9);
            check.is("the last one", x.yard(there, 5), 1);
        }
        check.throwsIndex(x, "3 of 3", () -> x.yard(3, 5));
        check.is("the first one", x.yard(0, 5), 2);

        check.sentence("yard: IllegalArgumentException if width is not 1 to 20");
        for (int width : new int[] {0, 21, LEAST, MOST}) {
            check.throwsArgument(x, "width " + width, () -> x.yard(2, width));
        }
        check.is("width 1", x.yard(2, 1), 2);
        check.is("width 20", x.yard(2, 20), 3);
        x.lead(2, -1, 9);
        x.pull(0);
        check.is("the breadth with 20", x.ship(0), 20);
        BottleShip narrow = withHull(40, 4, 1);
        raised(narrow, 10, 9, 8).yard(0, 1);
        check.is("the breadth with 1", narrow.ship(0), 1);
    }

    private static void yardState() {
        check.sentence("yard: IllegalStateException if the ship is in the bottle");
        BottleShip in = Ships.inside(Ships.withMasts(10));
        check.throwsState(in, "inside", () -> in.yard(0, 5));
        in.leave();
        check.is("outside again", in.yard(0, 5), 1);

        check.sentence("yard: or it has 3");
        BottleShip x = Ships.withMasts(10, 20);
        check.is("no yard", x.mast(0, 5), 0);
        for (int yard = 1; yard <= 3; yard++) {
            check.is("yard", x.yard(0, 5), yard);
            check.is("yards", x.mast(0, 5), yard);
        }
        check.throwsState(x, "a fourth one", () -> x.yard(0, 5));
        check.is("yards", x.mast(0, 5), 3);
        check.is("the other mast has none yet", x.yard(1, 5), 1);
    }

    private static void leadNumbers() {
        check.sentence("lead: IndexOutOfBoundsException if there is no such mast");
        BottleShip none = Ships.wide();
        for (int mast : new int[] {-1, 0, 1, LEAST, MOST}) {
            check.throwsIndex(none, mast + " of 0", () -> none.lead(mast, -1, 5));
        }
        BottleShip x = Ships.withMasts(10, 20, 30);
        for (int mast : new int[] {-2, -1, 3, LEAST, MOST}) {
            check.throwsIndex(x, mast + " of 3", () -> x.lead(mast, 0, 5));
            check.throwsIndex(x, mast + " of 3", () -> x.lead(mast, -1, 5));
        }
        check.is("the first one", x.lead(0, -1, 5), 0);
        check.is("the last one", x.lead(2, -1, 5), 1);

        check.sentence("lead: or no such other one, but -1");
        for (int to : new int[] {-2, 3, LEAST, MOST}) {
            check.throwsIndex(x, "to " + to + " of 3", () -> x.lead(0, to, 5));
        }
        check.is("to the last one", x.lead(0, 2, 5), 2);
        check.is("to the first one", x.lead(2, 0, 5), 3);
        check.is("to the bow", x.lead(1, -1, 5), 4);
        check.is("it leads to the bow", x.thread(4, 1), -1);
        BottleShip one = Ships.withMasts(10);
        check.throwsIndex(one, "to 1 of 1", () -> one.lead(0, 1, 5));

        check.sentence("lead: IllegalArgumentException if both are the same");
        for (int mast = 0; mast < 3; mast++) {
            int m = mast;
            check.throwsArgument(x, "to itself " + m, () -> x.lead(m, m, 5));
        }

        check.sentence("lead: or strength is not 1 to 9");
        for (int strength : new int[] {0, 10, -1, LEAST, MOST}) {
            check.throwsArgument(x, "strength " + strength, () -> x.lead(0, 1, strength));
            check.throwsArgument(x, "strength " + strength, () -> x.lead(0, -1, strength));
        }
        check.is("strength 1", x.lead(0, 1, 1), 5);
        check.is("told", x.thread(5, 2), 1);
        check.is("strength 9", x.lead(0, 1, 9), 6);
        check.is("told", x.thread(6, 2), 9);
        check.is("loose (at first)", x.thread(6, 3), 0);
    }

    private static void leadState() {
        check.sentence("lead: IllegalStateException if there are 8");
        BottleShip x = Ships.withMasts(10, 20);
        for (int thread = 0; thread < 8; thread++) {
            check.is("threads", x.count(3), thread);
            check.is("number", x.lead(0, -1, 1), thread);
        }
        check.throwsState(x, "a ninth one", () -> x.lead(0, -1, 1));
        check.throwsState(x, "a ninth one to a mast", () -> x.lead(1, 0, 9));
        check.is("threads", x.count(3), 8);

        BottleShip worn = Ships.withMasts(10, 20);
        worn.lead(1, -1, 9);
        for (int thread = 1; thread < 8; thread++) {
            worn.lead(0, -1, 1);
            worn.pull(thread);
        }
        check.is("broken ones", worn.count(5), 7);
        check.throwsState(worn, "broken ones are there still", () -> worn.lead(0, -1, 1));
    }

    /** The neck is 7 wide; the belly lets everything in. */
    private static BottleShip atNeck(int height, int width) {
        BottleShip x = withHull(40, height, width);
        x.setBottle(7, 60, 90, 0);
        return x;
    }

    private static void enters(String what, BottleShip x, boolean due) {
        check.is(what + ", enter", x.enter(), due);
        check.is(what + ", inside", x.ship(5), due ? 1 : 0);
    }

    private static void enterNeck() {
        check.sentence("It goes through the neck, if neither its breadth nor its top is more than the neck");
        enters("as broad", atNeck(1, 7), true);
        enters("broader", atNeck(1, 8), false);
        enters("as high", atNeck(7, 1), true);
        enters("higher", atNeck(8, 1), false);
        enters("both as the neck", atNeck(7, 7), true);
        enters("both more", atNeck(8, 8), false);
        enters("a mast to the neck", raised(atNeck(4, 5), 10, 3, 0), true);
        enters("a mast above the neck", raised(atNeck(4, 5), 10, 4, 0), false);

        check.sentence("the greatest one of its width and of all yards of masts that are not flat");
        for (int yard = 0; yard < 3; yard++) {
            for (int width : new int[] {7, 8}) {
                BottleShip x = atNeck(4, 5);
                x.step(10, 1);
                x.lead(0, -1, 5);
                for (int y = 0; y < 3; y++) {
                    x.yard(0, y == yard ? width : 1);
                }
                check.is("flat, yard " + yard + " is " + width, x.ship(0), 5);
                x.pull(0);
                check.is("not flat, yard " + yard + " is " + width, x.ship(0), width);
                enters("yard " + yard + " is " + width, x, width == 7);
            }
        }
    }

    private static void enterBelly() {
        check.sentence("It fits into the belly, if its end is not more than the length of this");
        for (int belly : new int[] {39, 40, 41}) {
            BottleShip x = new BottleShip();
            x.setBottle(8, 30, belly, 0);
            enters("a hull of 40 into " + belly, x, belly >= 40);
            BottleShip y = new BottleShip();
            y.setBottle(8, 30, belly, 0);
            y.step(31, 9);
            enters("a flat mast to 40 into " + belly, y, belly >= 40);
        }

        check.sentence("and its top and the putty, added, are not more than its height");
        for (int high : new int[] {23, 24, 25}) {
            BottleShip x = new BottleShip();
            x.setBottle(8, high, 60, 20);
            enters("4 upon 20 into " + high, x, high >= 24);
        }
        for (int putty : new int[] {0, 1, 2}) {
            BottleShip x = new BottleShip();
            x.setBottle(8, 5, 60, putty);
            enters("4 upon " + putty + " into 5", x, putty <= 1);
        }
    }

    private static void enterTwice() {
        check.sentence("if it is outside, goes through the neck, and fits into the belly, it is in it from now on");
        BottleShip x = new BottleShip();
        enters("outside", x, true);
        String before = Told.all(x);
        check.is("enter inside", x.enter(), false);
        check.is("enter inside changes nothing", Told.all(x), before);
        BottleShip y = new BottleShip();
        y.setBottle(4, 30, 60, 0);
        before = Told.all(y);
        check.is("refused by the neck", y.enter(), false);
        check.is("changes nothing", Told.all(y), before);
        y.setBottle(8, 30, 39, 0);
        before = Told.all(y);
        check.is("refused by the belly", y.enter(), false);
        check.is("changes nothing", Told.all(y), before);
        y.setBottle(8, 30, 40, 0);
        enters("at last", y, true);
    }

    private static void leave() {
        check.sentence("leave: if it is in it");
        BottleShip x = new BottleShip();
        String before = Told.all(x);
        check.is("outside", x.leave(), false);
        check.is("changes nothing", Told.all(x), before);
        x.enter();
        check.is("inside", x.leave(), true);
        check.is("outside again", Told.all(x), before);
        check.is("twice", x.leave(), false);

        check.sentence("leave: and goes through the neck, it is outside from now on");
        for (int width : new int[] {7, 8}) {
            BottleShip y = atNeck(4, 5);
            y.step(10, 1);
            y.yard(0, width);
            y.lead(0, -1, 5);
            y.enter();
            y.pull(0);
            String inside = Told.all(y);
            check.is("a yard of " + width + " in a neck of 7", y.leave(), width == 7);
            check.is("inside still", y.ship(5), width == 7 ? 0 : 1);
            check.is("a refused one changes nothing", Told.all(y).equals(inside), width != 7);
        }
        for (int height : new int[] {3, 4}) {
            BottleShip y = atNeck(4, 5);
            y.step(10, height);
            y.lead(0, -1, 5);
            y.enter();
            Ships.pull(y, 0, 9);
            check.is("a top of " + (4 + height) + " in a neck of 7", y.leave(), height == 3);
            check.is("inside still", y.ship(5), height == 3 ? 0 : 1);
        }
    }
}

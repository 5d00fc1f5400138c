import java.util.Arrays;

/**
 * Ships in bottles, whose masts are raised by threads.
 */
public final class BottleShip {
    private static final int MOST_MASTS = 3;
    private static final int MOST_YARDS = 3;
    private static final int MOST_THREADS = 8;
    private static final int MOST_HOURS = 50;

    private static final int UPRIGHT = 0;
    private static final int FLAT = 9;

    private static final int BOW = -1;
    private static final int NONE = -1;

    private static final int LOOSE = 0;
    private static final int GLUED = 1;
    private static final int BROKEN = 2;

    private static final int UNHINDERED = 0;
    private static final int HELD_OR_UPRIGHT = -1;
    private static final int CROSSED_BY_STRONGER = -2;
    private static final int WOULD_NOT_FIT = -3;

    private static final int COUNT_KINDS = 8;
    private static final int SHIP_KINDS = 6;
    private static final int MAST_KINDS = 8;
    private static final int THREAD_KINDS = 5;

    private final Bottle bottle = new Bottle();
    private final Hull hull = new Hull();
    private final Mast[] masts = new Mast[MOST_MASTS];
    private final Cord[] cords = new Cord[MOST_THREADS];
    private final Search search = new Search();
    /** The lean of each mast; it stays 0 where no mast is stepped. */
    private final int[] leans = new int[MOST_MASTS];
    private final int[] leansBefore = new int[MOST_MASTS];
    private final int[] leansAfter = new int[MOST_MASTS];
    private int mastCount;
    private int cordCount;
    private boolean inside;
    private int hour;
    private int pullsDone;
    private int pullsNotDone;

    public BottleShip() {
        for (int m = 0; m < MOST_MASTS; m++) {
            masts[m] = new Mast();
        }
        for (int t = 0; t < MOST_THREADS; t++) {
            cords[t] = new Cord();
        }
    }

    // ---- bottle and ship

    public int setBottle(int neck, int high, int length, int putty)
            throws IllegalArgumentException, IllegalStateException {
        if (!isWithin(neck, 1, 20) || !isWithin(high, 5, 60)
                || !isWithin(length, 10, 90) || !isWithin(putty, 0, 20)) {
            throw new IllegalArgumentException("no such bottle");
        }
        if (inside) {
            throw new IllegalStateException("the ship is in the bottle");
        }
        int before = bottle.neck;
        bottle.neck = neck;
        bottle.high = high;
        bottle.length = length;
        bottle.putty = putty;
        return before;
    }

    public int setHull(int length, int height, int width)
            throws IllegalArgumentException, IllegalStateException {
        if (!isWithin(length, 5, 80) || !isWithin(height, 1, 15) || !isWithin(width, 1, 15)) {
            throw new IllegalArgumentException("no such hull");
        }
        if (mastCount > 0 || inside) {
            throw new IllegalStateException("a mast stands, or the ship is in the bottle");
        }
        int before = hull.length;
        hull.length = length;
        hull.height = height;
        hull.width = width;
        return before;
    }

    public int step(int place, int height)
            throws IllegalArgumentException, IllegalStateException {
        if (!isWithin(place, 0, hull.length) || !isWithin(height, 1, 50)) {
            throw new IllegalArgumentException("no such place or height");
        }
        if (inside || mastCount >= MOST_MASTS || hasMastAt(place)) {
            throw new IllegalStateException("no mast can be stepped here now");
        }
        int number = mastCount;
        masts[number].place = place;
        masts[number].height = height;
        leans[number] = FLAT;
        mastCount++;
        return number;
    }

    public int yard(int mast, int width)
            throws IndexOutOfBoundsException, IllegalArgumentException, IllegalStateException {
        if (!isMast(mast)) {
            throw new IndexOutOfBoundsException("no such mast");
        }
        if (!isWithin(width, 1, 20)) {
            throw new IllegalArgumentException("no such width");
        }
        Mast bearer = masts[mast];
        if (inside || bearer.yardCount >= MOST_YARDS) {
            throw new IllegalStateException("no yard can be added now");
        }
        bearer.yards[bearer.yardCount] = width;
        bearer.yardCount++;
        return bearer.yardCount;
    }

    public int lead(int mast, int to, int strength)
            throws IndexOutOfBoundsException, IllegalArgumentException, IllegalStateException {
        if (!isMast(mast) || (to != BOW && !isMast(to))) {
            throw new IndexOutOfBoundsException("no such mast");
        }
        if (mast == to || !isWithin(strength, 1, 9)) {
            throw new IllegalArgumentException("both are the same, or no such strength");
        }
        if (cordCount >= MOST_THREADS) {
            throw new IllegalStateException("there are 8 threads");
        }
        int number = cordCount;
        cords[number].mast = mast;
        cords[number].to = to;
        cords[number].strength = strength;
        cords[number].span(masts[mast].place, to == BOW ? 0 : masts[to].place);
        cordCount++;
        return number;
    }

    public boolean enter() {
        if (inside || !goesThroughNeck() || !fitsWith(leans)) {
            return false;
        }
        inside = true;
        return true;
    }

    public boolean leave() {
        if (!inside || !goesThroughNeck()) {
            return false;
        }
        inside = false;
        return true;
    }

    // ---- threads

    public int pull(int thread) throws IndexOutOfBoundsException, IllegalStateException {
        if (!isThread(thread)) {
            throw new IndexOutOfBoundsException("no such thread");
        }
        Cord cord = cords[thread];
        if (cord.state != LOOSE) {
            throw new IllegalStateException("the thread is not loose");
        }
        int hindrance = hindranceOf(cord);
        if (hindrance != UNHINDERED) {
            pullsNotDone++;
            if (hindrance != HELD_OR_UPRIGHT) {
                cord.wear();
            }
            return hindrance;
        }
        pullsDone++;
        raise(cord.mast, loweredBy(cord.mast), leans, leansAfter);
        System.arraycopy(leansAfter, 0, leans, 0, MOST_MASTS);
        return leans[cord.mast];
    }

    public int glue(int thread) throws IndexOutOfBoundsException, IllegalStateException {
        if (!isThread(thread)) {
            throw new IndexOutOfBoundsException("no such thread");
        }
        Cord cord = cords[thread];
        if (cord.state == BROKEN) {
            throw new IllegalStateException("the thread is broken");
        }
        cord.state = cord.state == LOOSE ? GLUED : LOOSE;
        return cord.state == GLUED ? 1 : 0;
    }

    public boolean cross(int thread, int other) throws IndexOutOfBoundsException {
        if (!isThread(thread) || !isThread(other)) {
            throw new IndexOutOfBoundsException("no such thread");
        }
        return cords[thread].crosses(cords[other]);
    }

    // ---- what is there

    public int mast(int mast, int what) throws IndexOutOfBoundsException {
        if (!isMast(mast)) {
            throw new IndexOutOfBoundsException("no such mast");
        }
        switch (what) {
            case 0: return masts[mast].place;
            case 1: return masts[mast].height;
            case 2: return leans[mast];
            case 3: return masts[mast].standing(leans[mast]);
            case 4: return masts[mast].reach(leans[mast]);
            case 5: return masts[mast].yardCount;
            case 6: return isHeld(mast) ? 1 : 0;
            case 7: return looseThreadsFrom(mast);
            default: throw new IndexOutOfBoundsException("what is not 0 to 7");
        }
    }

    public int thread(int thread, int what) throws IndexOutOfBoundsException {
        if (!isThread(thread)) {
            throw new IndexOutOfBoundsException("no such thread");
        }
        Cord cord = cords[thread];
        switch (what) {
            case 0: return cord.mast;
            case 1: return cord.to;
            case 2: return cord.strength;
            case 3: return cord.state;
            case 4: return crossingsOf(cord);
            default: throw new IndexOutOfBoundsException("what is not 0 to 4");
        }
    }

    public int ship(int what) throws IndexOutOfBoundsException {
        switch (what) {
            case 0: return breadth();
            case 1: return topWith(leans);
            case 2: return endWith(leans);
            case 3: return goesThroughNeck() ? 1 : 0;
            case 4: return fitsWith(leans) ? 1 : 0;
            case 5: return inside ? 1 : 0;
            default: throw new IndexOutOfBoundsException("what is not 0 to 5");
        }
    }

    public int count(int what) throws IndexOutOfBoundsException {
        switch (what) {
            case 0: return hour;
            case 1: return mastCount;
            case 2: return mastsLeaning(UPRIGHT);
            case 3: return cordCount;
            case 4: return threadsThatAre(LOOSE);
            case 5: return threadsThatAre(BROKEN);
            case 6: return pullsDone;
            case 7: return pullsNotDone;
            default: throw new IndexOutOfBoundsException("what is not 0 to 7");
        }
    }

    // ---- hours and looking ahead

    public int pass(int hours) throws IllegalArgumentException {
        if (!isWithin(hours, 1, MOST_HOURS)) {
            throw new IllegalArgumentException("hours are not 1 to 50");
        }
        int flatBefore = mastsLeaning(FLAT);
        for (int m = 0; m < mastCount; m++) {
            int fall = fallInAnHour(m);
            for (int h = 0; h < hours; h++) {
                leans[m] = Math.min(FLAT, leans[m] + fall);
            }
        }
        hour += hours;
        return mastsLeaning(FLAT) - flatBefore;
    }

    public int fewest() {
        explore();
        return search.steps[Search.ALL_UPRIGHT];
    }

    public int first() {
        explore();
        return search.openers[Search.ALL_UPRIGHT];
    }

    public int least(int mast) throws IndexOutOfBoundsException {
        if (!isMast(mast)) {
            throw new IndexOutOfBoundsException("no such mast");
        }
        explore();
        int least = leans[mast];
        for (int i = 0; i < search.reached && i < Search.STATES; i++) {
            Search.decode(search.queue[i], leansAfter);
            least = Math.min(least, leansAfter[mast]);
        }
        return least;
    }

    public int falls() {
        int longest = 0;
        for (int m = 0; m < mastCount; m++) {
            int hours = hoursUntilFlat(m);
            if (hours == NONE) {
                return NONE;
            }
            longest = Math.max(longest, hours);
        }
        return longest;
    }

    public double mean() {
        if (mastCount == 0) {
            return 0.0;
        }
        int sum = 0;
        for (int m = 0; m < mastCount; m++) {
            sum += leans[m];
        }
        return (double) sum / (double) mastCount;
    }

    public long digest() {
        long d = 823L;
        for (int what = 0; what < COUNT_KINDS; what++) {
            d = d * 31L + count(what);
        }
        for (int what = 0; what < SHIP_KINDS; what++) {
            d = d * 31L + ship(what);
        }
        d = hull.digestOnto(bottle.digestOnto(d));
        for (int m = 0; m < mastCount; m++) {
            for (int what = 0; what < MAST_KINDS; what++) {
                d = d * 31L + mast(m, what);
            }
            d = masts[m].digestYardsOnto(d);
        }
        for (int t = 0; t < cordCount; t++) {
            for (int what = 0; what < THREAD_KINDS; what++) {
                d = d * 31L + thread(t, what);
            }
        }
        return d;
    }

    // ---- what the calls above are made of

    private static boolean isWithin(int number, int least, int greatest) {
        return number >= least && number <= greatest;
    }

    private boolean isMast(int mast) {
        return mast >= 0 && mast < mastCount;
    }

    private boolean isThread(int thread) {
        return thread >= 0 && thread < cordCount;
    }

    private boolean hasMastAt(int place) {
        for (int m = 0; m < mastCount; m++) {
            if (masts[m].place == place) {
                return true;
            }
        }
        return false;
    }

    private int mastsLeaning(int lean) {
        int found = 0;
        for (int m = 0; m < mastCount; m++) {
            if (leans[m] == lean) {
                found++;
            }
        }
        return found;
    }

    private int threadsThatAre(int state) {
        int found = 0;
        for (int t = 0; t < cordCount; t++) {
            if (cords[t].state == state) {
                found++;
            }
        }
        return found;
    }

    private int threadsFrom(int mast, int state) {
        int found = 0;
        for (int t = 0; t < cordCount; t++) {
            if (cords[t].mast == mast && cords[t].state == state) {
                found++;
            }
        }
        return found;
    }

    private boolean isHeld(int mast) {
        return threadsFrom(mast, GLUED) > 0;
    }

    private int looseThreadsFrom(int mast) {
        return threadsFrom(mast, LOOSE);
    }

    private int crossingsOf(Cord cord) {
        int found = 0;
        for (int t = 0; t < cordCount; t++) {
            if (cord.crosses(cords[t])) {
                found++;
            }
        }
        return found;
    }

    private boolean isCrossedByStronger(Cord cord) {
        for (int t = 0; t < cordCount; t++) {
            Cord other = cords[t];
            if (other.state == LOOSE && other.strength > cord.strength && cord.crosses(other)) {
                return true;
            }
        }
        return false;
    }

    private int breadth() {
        int breadth = hull.width;
        for (int m = 0; m < mastCount; m++) {
            if (leans[m] != FLAT) {
                breadth = Math.max(breadth, masts[m].widestYard());
            }
        }
        return breadth;
    }

    private int topWith(int[] row) {
        int highest = 0;
        for (int m = 0; m < mastCount; m++) {
            highest = Math.max(highest, masts[m].standing(row[m]));
        }
        return hull.height + highest;
    }

    private int endWith(int[] row) {
        int end = hull.length;
        for (int m = 0; m < mastCount; m++) {
            end = Math.max(end, masts[m].place + masts[m].reach(row[m]));
        }
        return end;
    }

    private boolean goesThroughNeck() {
        return breadth() <= bottle.neck && topWith(leans) <= bottle.neck;
    }

    private boolean fitsWith(int[] row) {
        return endWith(row) <= bottle.length && topWith(row) + bottle.putty <= bottle.high;
    }

    /** Why a pull of this loose thread would not be done now, as pull() answers it. */
    private int hindranceOf(Cord cord) {
        if (isHeld(cord.mast) || leans[cord.mast] == UPRIGHT) {
            return HELD_OR_UPRIGHT;
        }
        if (isCrossedByStronger(cord)) {
            return CROSSED_BY_STRONGER;
        }
        raise(cord.mast, loweredBy(cord.mast), leans, leansAfter);
        return inside && !fitsWith(leansAfter) ? WOULD_NOT_FIT : UNHINDERED;
    }

    /** The masts that lean more when this one is raised, unless they are flat: bit m for mast m. */
    private int loweredBy(int mast) {
        int lowered = 0;
        for (int t = 0; t < cordCount; t++) {
            Cord cord = cords[t];
            if (cord.mast == mast && cord.state == LOOSE && cord.to != BOW && !isHeld(cord.to)) {
                lowered |= 1 << cord.to;
            }
        }
        return lowered;
    }

    private static void raise(int mast, int lowered, int[] before, int[] after) {
        for (int m = 0; m < MOST_MASTS; m++) {
            after[m] = before[m];
            if (m == mast) {
                after[m]--;
            } else if ((lowered >> m & 1) == 1 && before[m] < FLAT) {
                after[m]++;
            }
        }
    }

    private int fallInAnHour(int mast) {
        if (isHeld(mast) || looseThreadsFrom(mast) > 0) {
            return 0;
        }
        return masts[mast].yardCount >= 2 ? 2 : 1;
    }

    private int hoursUntilFlat(int mast) {
        int fall = fallInAnHour(mast);
        int lean = leans[mast];
        for (int h = 0; h <= MOST_HOURS; h++) {
            if (lean >= FLAT) {
                return h;
            }
            lean += fall;
        }
        return NONE;
    }

    /**
     * Reaches every state of the masts that pulls lead to from now. Pulls that are done wear no
     * thread, so which threads can be pulled, and which masts each pull lowers, stays as it is.
     */
    private void explore() {
        for (int m = 0; m < mastCount; m++) {
            search.handles[m] = firstFreeThreadOf(m);
            search.lowered[m] = loweredBy(m);
        }
        search.begin(Search.encode(leans));
        for (int i = 0; i < search.reached && i < Search.STATES; i++) {
            exploreFrom(search.queue[i]);
        }
    }

    private void exploreFrom(int state) {
        Search.decode(state, leansBefore);
        for (int m = 0; m < mastCount; m++) {
            if (search.handles[m] == NONE || leansBefore[m] == UPRIGHT) {
                continue;
            }
            raise(m, search.lowered[m], leansBefore, leansAfter);
            if (!inside || fitsWith(leansAfter)) {
                search.reach(state, Search.encode(leansAfter), search.handles[m]);
            }
        }
    }

    /** All free threads of a mast raise it alike, so the search needs the first one alone. */
    private int firstFreeThreadOf(int mast) {
        if (isHeld(mast)) {
            return NONE;
        }
        for (int t = 0; t < cordCount; t++) {
            if (cords[t].mast == mast && cords[t].state == LOOSE && !isCrossedByStronger(cords[t])) {
                return t;
            }
        }
        return NONE;
    }

    private static final class Bottle {
        int neck = 8;
        int high = 30;
        int length = 60;
        int putty = 0;

        long digestOnto(long d) {
            return (((d * 31L + neck) * 31L + high) * 31L + length) * 31L + putty;
        }
    }

    private static final class Hull {
        int length = 40;
        int height = 4;
        int width = 5;

        long digestOnto(long d) {
            return ((d * 31L + length) * 31L + height) * 31L + width;
        }
    }

    private static final class Mast {
        final int[] yards = new int[MOST_YARDS];
        int place;
        int height;
        int yardCount;

        int standing(int lean) {
            return height * (FLAT - lean) / 9;
        }

        int reach(int lean) {
            return height * lean / 9;
        }

        int widestYard() {
            int widest = 0;
            for (int y = 0; y < yardCount; y++) {
                widest = Math.max(widest, yards[y]);
            }
            return widest;
        }

        long digestYardsOnto(long d) {
            long sum = d;
            for (int y = 0; y < yardCount; y++) {
                sum = sum * 31L + yards[y];
            }
            return sum;
        }
    }

    /** A thread of the document. */
    private static final class Cord {
        int mast;
        int to;
        int strength;
        int state;
        int lesserPlace;
        int greaterPlace;

        void span(int place, int otherPlace) {
            lesserPlace = Math.min(place, otherPlace);
            greaterPlace = Math.max(place, otherPlace);
        }

        boolean crosses(Cord other) {
            if (other == this || state == BROKEN || other.state == BROKEN) {
                return false;
            }
            return Math.max(lesserPlace, other.lesserPlace)
                    < Math.min(greaterPlace, other.greaterPlace);
        }

        void wear() {
            strength--;
            if (strength == 0) {
                state = BROKEN;
            }
        }
    }

    /**
     * The states of the masts that a search has reached, in the order of the pulls they need. A
     * state is one number, with the lean of mast 0 as its last digit.
     */
    private static final class Search {
        static final int ALL_UPRIGHT = 0;
        static final int STATES = 1000;

        /** The first thread that raises each mast, or NONE. */
        final int[] handles = new int[MOST_MASTS];
        final int[] lowered = new int[MOST_MASTS];
        final int[] queue = new int[STATES];
        /** The fewest pulls to each state, or NONE. */
        final int[] steps = new int[STATES];
        /** The smallest thread that can be the first one of these fewest pulls, or NONE. */
        final int[] openers = new int[STATES];
        int reached;

        static int encode(int[] row) {
            return row[0] + 10 * row[1] + 100 * row[2];
        }

        static void decode(int state, int[] row) {
            row[0] = state % 10;
            row[1] = state / 10 % 10;
            row[2] = state / 100;
        }

        static boolean isState(int number) {
            return number >= 0 && number < STATES;
        }

        void begin(int start) {
            Arrays.fill(steps, NONE);
            Arrays.fill(openers, NONE);
            reached = 0;
            if (isState(start)) {
                steps[start] = 0;
                queue[0] = start;
                reached = 1;
            }
        }

        void reach(int from, int state, int thread) {
            if (!isState(from) || !isState(state)) {
                return;
            }
            int opener = steps[from] == 0 ? thread : openers[from];
            if (steps[state] == NONE && reached < STATES) {
                steps[state] = steps[from] + 1;
                openers[state] = opener;
                queue[reached] = state;
                reached++;
            } else if (steps[state] == steps[from] + 1) {
                openers[state] = Math.min(openers[state], opener);
            }
        }
    }
}

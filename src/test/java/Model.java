import java.util.ArrayDeque;
import java.util.ArrayList;
import java.util.HashMap;
import java.util.List;
import java.util.Map;

/**
 * The document once more, without thought of cost: looking ahead really pulls the threads of
 * copies. Wrong calls throw as in the document.
 */
final class Model {
    private int neck = 8;
    private int high = 30;
    private int bellyLength = 60;
    private int putty;
    private int length = 40;
    private int height = 4;
    private int width = 5;
    private boolean in;
    private int hour;
    private int done;
    private int undone;
    private final List<Spar> spars = new ArrayList<>();
    private final List<Line> lines = new ArrayList<>();

    private static final class Spar {
        int place;
        int height;
        int lean = 9;
        List<Integer> yards = new ArrayList<>();
    }

    private static final class Line {
        Spar from;
        Spar to;
        int strength;
        boolean glued;
    }

    private static IllegalArgumentException badArgument() {
        return new IllegalArgumentException();
    }

    private static IllegalStateException badState() {
        return new IllegalStateException();
    }

    private static IndexOutOfBoundsException badIndex() {
        return new IndexOutOfBoundsException();
    }

    private Model copy() {
        Model c = new Model();
        c.neck = neck;
        c.high = high;
        c.bellyLength = bellyLength;
        c.putty = putty;
        c.length = length;
        c.height = height;
        c.width = width;
        c.in = in;
        c.hour = hour;
        c.done = done;
        c.undone = undone;
        for (Spar s : spars) {
            Spar t = new Spar();
            t.place = s.place;
            t.height = s.height;
            t.lean = s.lean;
            t.yards = new ArrayList<>(s.yards);
            c.spars.add(t);
        }
        for (Line l : lines) {
            Line k = new Line();
            k.from = c.spars.get(spars.indexOf(l.from));
            k.to = l.to == null ? null : c.spars.get(spars.indexOf(l.to));
            k.strength = l.strength;
            k.glued = l.glued;
            c.lines.add(k);
        }
        return c;
    }

    private Spar spar(int number) {
        if (number < 0 || number >= spars.size()) {
            throw badIndex();
        }
        return spars.get(number);
    }

    private Line line(int number) {
        if (number < 0 || number >= lines.size()) {
            throw badIndex();
        }
        return lines.get(number);
    }

    int setBottle(int n, int h, int l, int p) {
        if (n < 1 || n > 20 || h < 5 || h > 60 || l < 10 || l > 90 || p < 0 || p > 20) {
            throw badArgument();
        }
        if (in) {
            throw badState();
        }
        int before = neck;
        neck = n;
        high = h;
        bellyLength = l;
        putty = p;
        return before;
    }

    int setHull(int l, int h, int w) {
        if (l < 5 || l > 80 || h < 1 || h > 15 || w < 1 || w > 15) {
            throw badArgument();
        }
        if (!spars.isEmpty() || in) {
            throw badState();
        }
        int before = length;
        length = l;
        height = h;
        width = w;
        return before;
    }

    int step(int place, int h) {
        if (place < 0 || place > length || h < 1 || h > 50) {
            throw badArgument();
        }
        if (in || spars.size() == 3 || spars.stream().anyMatch(s -> s.place == place)) {
            throw badState();
        }
        Spar s = new Spar();
        s.place = place;
        s.height = h;
        spars.add(s);
        return spars.size() - 1;
    }

    int yard(int mast, int w) {
        Spar s = spar(mast);
        if (w < 1 || w > 20) {
            throw badArgument();
        }
        if (in || s.yards.size() == 3) {
            throw badState();
        }
        s.yards.add(w);
        return s.yards.size();
    }

    int lead(int mast, int to, int strength) {
        Spar from = spar(mast);
        Spar other = to == -1 ? null : spar(to);
        if (from == other || strength < 1 || strength > 9) {
            throw badArgument();
        }
        if (lines.size() == 8) {
            throw badState();
        }
        Line l = new Line();
        l.from = from;
        l.to = other;
        l.strength = strength;
        lines.add(l);
        return lines.size() - 1;
    }

    private int breadth() {
        int most = width;
        for (Spar s : spars) {
            for (int y : s.yards) {
                if (s.lean < 9 && y > most) {
                    most = y;
                }
            }
        }
        return most;
    }

    private int top() {
        return height + spars.stream().mapToInt(s -> s.height * (9 - s.lean) / 9).max().orElse(0);
    }

    private int end() {
        return Math.max(length,
                spars.stream().mapToInt(s -> s.place + s.height * s.lean / 9).max().orElse(0));
    }

    private boolean through() {
        return !(breadth() > neck || top() > neck);
    }

    private boolean fits() {
        return !(end() > bellyLength || top() + putty > high);
    }

    boolean enter() {
        boolean goes = !in && through() && fits();
        in = in || goes;
        return goes;
    }

    boolean leave() {
        boolean goes = in && through();
        in = in && !goes;
        return goes;
    }

    private boolean loose(Line l) {
        return !l.glued && l.strength > 0;
    }

    private boolean held(Spar s) {
        return lines.stream().anyMatch(l -> l.glued && l.from == s);
    }

    private boolean crossing(Line a, Line b) {
        if (a == b || a.strength == 0 || b.strength == 0) {
            return false;
        }
        // They cross if some gap between neighbouring places lies in both.
        for (int gap = 0; gap < 80; gap++) {
            if (covers(a, gap) && covers(b, gap)) {
                return true;
            }
        }
        return false;
    }

    private static boolean covers(Line l, int gap) {
        int a = l.from.place;
        int b = l.to == null ? 0 : l.to.place;
        return (a <= gap && gap < b) || (b <= gap && gap < a);
    }

    int pull(int thread) {
        Line l = line(thread);
        if (!loose(l)) {
            throw badState();
        }
        if (held(l.from) || l.from.lean == 0) {
            undone++;
            return -1;
        }
        for (Line k : lines) {
            if (loose(k) && crossing(k, l) && k.strength > l.strength) {
                undone++;
                l.strength--;
                return -2;
            }
        }
        Map<Spar, Integer> before = new HashMap<>();
        for (Spar s : spars) {
            before.put(s, s.lean);
            boolean led = lines.stream().anyMatch(k -> loose(k) && k.from == l.from && k.to == s);
            if (led && !held(s) && s.lean != 9) {
                s.lean++;
            }
        }
        l.from.lean--;
        if (in && !fits()) {
            for (Spar s : spars) {
                s.lean = before.get(s);
            }
            undone++;
            l.strength--;
            return -3;
        }
        done++;
        return l.from.lean;
    }

    int glue(int thread) {
        Line l = line(thread);
        if (l.strength == 0) {
            throw badState();
        }
        l.glued = !l.glued;
        return l.glued ? 1 : 0;
    }

    boolean cross(int thread, int other) {
        return crossing(line(thread), line(other));
    }

    private static int told(int what, int... numbers) {
        if (what < 0 || what >= numbers.length) {
            throw badIndex();
        }
        return numbers[what];
    }

    private static int bit(boolean is) {
        return is ? 1 : 0;
    }

    int mast(int mast, int what) {
        Spar s = spar(mast);
        int looseOnes = (int) lines.stream().filter(l -> loose(l) && l.from == s).count();
        return told(what, s.place, s.height, s.lean, s.height * (9 - s.lean) / 9,
                s.height * s.lean / 9, s.yards.size(), bit(held(s)), looseOnes);
    }

    int thread(int thread, int what) {
        Line l = line(thread);
        int crossed = (int) lines.stream().filter(k -> crossing(k, l)).count();
        return told(what, spars.indexOf(l.from), spars.indexOf(l.to), l.strength,
                l.strength == 0 ? 2 : bit(l.glued), crossed);
    }

    int ship(int what) {
        return told(what, breadth(), top(), end(), bit(through()), bit(fits()), bit(in));
    }

    int count(int what) {
        return told(what, hour, spars.size(), (int) spars.stream().filter(s -> s.lean == 0).count(),
                lines.size(), (int) lines.stream().filter(this::loose).count(),
                (int) lines.stream().filter(l -> l.strength == 0).count(), done, undone);
    }

    private int flatOnes() {
        return (int) spars.stream().filter(s -> s.lean == 9).count();
    }

    private void goAnHour() {
        for (Spar s : spars) {
            if (!held(s) && s.lean < 9 && lines.stream().noneMatch(l -> loose(l) && l.from == s)) {
                s.lean = Math.min(9, s.lean + 1 + (s.yards.size() >= 2 ? 1 : 0));
            }
        }
        hour++;
    }

    int pass(int hours) {
        if (hours < 1 || hours > 50) {
            throw badArgument();
        }
        int before = flatOnes();
        for (int h = 0; h < hours; h++) {
            goAnHour();
        }
        return flatOnes() - before;
    }

    private String leans() {
        StringBuilder all = new StringBuilder();
        for (Spar s : spars) {
            all.append(s.lean);
        }
        return all.toString();
    }

    private boolean allUpright() {
        return spars.stream().allMatch(s -> s.lean == 0);
    }

    /** A copy behind a pull that is done, or null. */
    private Model pulled(int thread) {
        if (!loose(lines.get(thread))) {
            return null;
        }
        Model next = copy();
        return next.pull(thread) >= 0 ? next : null;
    }

    /** Every state that pulls lead to, with the fewest pulls to it. */
    private Map<Model, Integer> reachable() {
        Map<String, Model> seen = new HashMap<>();
        Map<Model, Integer> far = new HashMap<>();
        ArrayDeque<Model> queue = new ArrayDeque<>();
        queue.add(this);
        seen.put(leans(), this);
        far.put(this, 0);
        while (!queue.isEmpty()) {
            Model here = queue.remove();
            for (int t = 0; t < lines.size(); t++) {
                Model next = here.pulled(t);
                if (next != null && !seen.containsKey(next.leans())) {
                    seen.put(next.leans(), next);
                    far.put(next, far.get(here) + 1);
                    queue.add(next);
                }
            }
        }
        return far;
    }

    int fewest() {
        for (Map.Entry<Model, Integer> e : reachable().entrySet()) {
            if (e.getKey().allUpright()) {
                return e.getValue();
            }
        }
        return -1;
    }

    int first() {
        int fewest = fewest();
        if (fewest <= 0) {
            return -1;
        }
        for (int t = 0; t < lines.size(); t++) {
            Model next = pulled(t);
            if (next != null && next.fewest() == fewest - 1) {
                return t;
            }
        }
        throw new AssertionError("no first pull");
    }

    int least(int mast) {
        spar(mast);
        int least = 9;
        for (Model m : reachable().keySet()) {
            least = Math.min(least, m.spars.get(mast).lean);
        }
        return least;
    }

    int falls() {
        Model later = copy();
        for (int h = 0; h <= 50; h++) {
            if (later.flatOnes() == spars.size()) {
                return h;
            }
            later.goAnHour();
        }
        return -1;
    }

    double mean() {
        return spars.stream().mapToInt(s -> s.lean).average().orElse(0);
    }

    long digest() {
        List<Integer> all = new ArrayList<>();
        for (int i = 0; i < 8; i++) {
            all.add(count(i));
        }
        for (int i = 0; i < 6; i++) {
            all.add(ship(i));
        }
        all.addAll(List.of(neck, high, bellyLength, putty, length, height, width));
        for (int m = 0; m < spars.size(); m++) {
            for (int i = 0; i < 8; i++) {
                all.add(mast(m, i));
            }
            all.addAll(spars.get(m).yards);
        }
        for (int t = 0; t < lines.size(); t++) {
            for (int i = 0; i < 5; i++) {
                all.add(thread(t, i));
            }
        }
        long d = 823;
        for (int x : all) {
            d = d * 31 + x;
        }
        return d;
    }
}

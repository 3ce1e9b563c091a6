import java.lang.reflect.Array;
import java.math.BigInteger;
import java.util.ArrayDeque;
import java.util.ArrayList;
import java.util.Arrays;
import java.util.Deque;
import java.util.HashMap;
import java.util.LinkedHashSet;
import java.util.List;
import java.util.Map;
import java.util.Set;

/**
 * The document once more, for ModelTest, by other means than HatchHouse has: the machine's own arrays, classes, faces,
 * exceptions and doubles, fractions of any size, and acts that are undone from a whole copy.
 */
final class Model {
    static final int NONE = -1, BAD = -1, FULL = -2, LACK = -3;

    // ---- kinds as classes and faces

    static class Fish {
        int grams;
        Fish mother, father;
        long share() { throw new ClassCastException(); }
    }
    interface Rated { long rate(int n); }
    interface Eats {
        long share();
        default long appetite(int n) { return share() * n / 10; }
    }
    interface Bears {
        int grams();
        default long eggs(int n) { return grams() / n; }
    }
    interface Priced extends Rated {
        int grams();
        default long price(int n) { return grams() * rate(n); }
    }
    static class Trout extends Fish implements Eats, Priced {
        @Override public long share() { return 3; }
        @Override public long rate(int n) { return n; }
        @Override public int grams() { return grams; }
    }
    static final class Rainbow extends Trout implements Bears {
        @Override public long share() { return 4; }
        @Override public long rate(int n) { return 2 * super.rate(n); }
        @Override public long price(int n) { return super.price(n) + 100; }
    }
    static class Char extends Fish implements Eats {
        @Override public long share() { return 5; }
    }
    static final class Splake extends Char implements Bears, Priced {
        @Override public long share() { return super.share() + 1; }
        @Override public long rate(int n) { return n + share(); }
        @Override public long appetite(int n) { return super.appetite(n) - 1; }
        @Override public int grams() { return grams; }
    }
    static final Class<?>[] KINDS = {Fish.class, Trout.class, Rainbow.class, Char.class, Splake.class, Eats.class, Bears.class,
        Priced.class};
    static final Class<?>[] LANES = {boolean.class, byte.class, short.class, char.class, int.class, long.class, float.class,
        double.class};

    static final class Row { Object items; }
    static final class Grid { int lane; Row[] trays; }
    static final class Net { Object[] meshes; }
    static final class Card {
        Object[] fields = new Object[8];
        Card next, mother;
        Fish fish;
        Card() { for (int i = 0; i < 8; i++) fields[i] = Array.newInstance(LANES[i], 1); }
    }
    static final class Tank {
        Row probes;
        int[] reasons = new int[16];
        List<double[]> past = new ArrayList<>();
        double went = Double.NaN;
        double[] wishes = new double[4];
        double setting;
        Grid grid;
        long sum, number;
        long[] dead = new long[4];
        int waits = -1;
    }
    record Step(int sort, int a, int b, int c, long v) { }
    static final class Refused extends RuntimeException {
        private static final long serialVersionUID = 1;
        final int why;
        Refused(int why) { this.why = why; }
    }

    final List<Object> things = new ArrayList<>();
    final Tank[] tanks = new Tank[6];
    final List<List<Step>> plans = new ArrayList<>();
    int failed, passed, today, minutes;
    long answer;
    final int[] acted = new int[6];
    final Deque<Integer> trace = new ArrayDeque<>();

    Model() {
        for (int i = 0; i < 6; i++) tanks[i] = new Tank();
        for (int i = 0; i < 4; i++) plans.add(new ArrayList<>());
    }

    // ---- how calls answer

    private interface Work { long run(); }

    private long call(Work work, boolean asLong) {
        try {
            long answer = work.run();
            failed = 0;
            return answer;
        } catch (Refused e) {
            failed = e.why;
            return asLong ? 0 : e.why;
        } catch (RuntimeException e) {
            failed = failureOf(e);
            return asLong ? 0 : -10 - failed;
        }
    }

    private static int failureOf(RuntimeException e) {
        if (e instanceof NullPointerException) return 1;
        if (e instanceof IndexOutOfBoundsException) return 2;
        if (e instanceof ClassCastException) return 3;
        if (e instanceof NegativeArraySizeException) return 4;
        if (e instanceof ArrayStoreException) return 5;
        if (e instanceof ArithmeticException) return 6;
        if (e instanceof IllegalStateException) return 7;
        throw e;
    }

    private int whole(Work work) { return (int) call(work, false); }
    private long wide(Work work) { return call(work, true); }
    private static void bad(boolean is) { if (is) throw new Refused(BAD); }
    private static void lack(boolean is) { if (is) throw new Refused(LACK); }
    private void room(int n) { if (things.size() + n > 120) throw new Refused(FULL); }
    private Object at(long number) {
        bad(number < -1 || number >= things.size());
        return number == -1 ? null : things.get((int) number);
    }
    private static <T> T need(Object thing, Class<T> sort) {
        if (thing == null) throw new NullPointerException();
        return sort.cast(thing);
    }
    private int add(Object thing) { things.add(thing); return things.size() - 1; }
    private int numberOf(Object thing) {
        for (int i = 0; i < things.size(); i++) if (things.get(i) == thing) return i;
        return NONE;
    }
    private static Row newRow(int lane, int n) {
        Row row = new Row();
        row.items = Array.newInstance(LANES[lane], n);
        return row;
    }
    private static int laneOf(Object items) { return Arrays.asList(LANES).indexOf(items.getClass().getComponentType()); }

    private static long bitsOf(Object items, int i) {
        if (items instanceof boolean[] a) return a[i] ? 1 : 0;
        if (items instanceof float[] a) return Float.floatToIntBits(a[i]);
        if (items instanceof double[] a) return Double.doubleToLongBits(a[i]);
        if (items instanceof char[] a) return a[i];
        return Array.getLong(items, i);
    }
    private static void store(Object items, int i, long bits) {
        if (items instanceof boolean[] a) a[i] = bits != 0;
        else if (items instanceof byte[] a) a[i] = (byte) bits;
        else if (items instanceof short[] a) a[i] = (short) bits;
        else if (items instanceof char[] a) a[i] = (char) bits;
        else if (items instanceof int[] a) a[i] = (int) bits;
        else if (items instanceof long[] a) a[i] = bits;
        else if (items instanceof float[] a) a[i] = Float.intBitsToFloat((int) bits);
        else ((double[]) items)[i] = Double.longBitsToDouble(bits);
    }
    private static void lift(Object items, int i, long v) {
        bitsOf(items, i);
        if (items instanceof byte[] a) a[i] += v;
        else if (items instanceof short[] a) a[i] += v;
        else if (items instanceof char[] a) a[i] += v;
        else if (items instanceof int[] a) a[i] += v;
        else if (items instanceof long[] a) a[i] += v;
        else if (items instanceof float[] a) a[i] += (double) v;
        else ((double[]) items)[i] += v;
    }

    // ---- things

    int row(int lane, int n) {
        return whole(() -> {
            bad(lane < 0 || lane > 7 || n > 16);
            room(1);
            return add(newRow(lane, n));
        });
    }
    int put(int row, int i, long bits) {
        return whole(() -> { store(need(at(row), Row.class).items, i, bits); return 1; });
    }
    long get(int row, int i) { return wide(() -> bitsOf(need(at(row), Row.class).items, i)); }
    int grid(int lane, int a, int b) {
        return whole(() -> {
            bad(lane < 0 || lane > 7 || a > 8 || b < -1 || b > 16);
            int rows = b == -1 || a < 0 ? 0 : a;
            room(rows + 1);
            Grid grid = new Grid();
            grid.lane = lane;
            grid.trays = new Row[a];
            for (int i = 0; i < rows; i++) { grid.trays[i] = newRow(lane, b); add(grid.trays[i]); }
            return add(grid);
        });
    }
    int tray(int grid, int i) { return whole(() -> numberOf(need(at(grid), Grid.class).trays[i])); }
    int setTray(int grid, int i, int row) {
        return whole(() -> {
            Object g = at(grid), r = at(row);
            Grid places = need(g, Grid.class);
            Row items = (Row) r;
            Row was = places.trays[i];
            if (items != null && laneOf(items.items) != places.lane) throw new ArrayStoreException();
            places.trays[i] = items;
            return was == items ? 1 : 1;
        });
    }
    long cell(int grid, int i, int j) { return wide(() -> bitsOf(need(at(grid), Grid.class).trays[i].items, j)); }
    long raise(int grid, int i, int j, long v, boolean after) {
        return wide(() -> {
            Object items = need(at(grid), Grid.class).trays[i].items;
            long was = bitsOf(items, j);
            lift(items, j, v);
            return after ? bitsOf(items, j) : was;
        });
    }
    int move(int from, int i, int to, int j, int n) {
        return whole(() -> {
            Object f = at(from), t = at(to);
            Object source = need(f, Row.class).items, goal = need(t, Row.class).items;
            System.arraycopy(source, i, goal, j, n);
            return 1;
        });
    }
    int net(int kind, int n) {
        return whole(() -> {
            bad(kind < 0 || kind > 7 || n > 8);
            room(1);
            Net net = new Net();
            net.meshes = (Object[]) Array.newInstance(KINDS[kind], n);
            return add(net);
        });
    }
    private static Fish newFish(Class<?> kind) {
        return kind == Trout.class ? new Trout() : kind == Rainbow.class ? new Rainbow() : kind == Char.class ? new Char() : new Splake();
    }
    int fish(int kind, int grams, int mother, int father) {
        return whole(() -> {
            bad(kind < 1 || kind > 4 || grams < 0);
            Object m = at(mother), f = at(father);
            room(1);
            Fish fish = newFish(KINDS[kind]);
            fish.grams = grams;
            fish.mother = (Fish) m;
            fish.father = (Fish) f;
            return add(fish);
        });
    }
    int putIn(int net, int i, int fish) {
        return whole(() -> {
            Object n = at(net), f = at(fish);
            Net meshes = need(n, Net.class);
            Fish swimmer = (Fish) f;
            meshes.meshes[i] = swimmer;
            return 1;
        });
    }
    int letOut(int net, int i, int kind) {
        return whole(() -> {
            bad(kind < 0 || kind > 7);
            Net meshes = need(at(net), Net.class);
            Object out = need(meshes.meshes[i], Fish.class);
            KINDS[kind].cast(out);
            meshes.meshes[i] = null;
            return numberOf(out);
        });
    }
    int pass(int net, int i, int to, int j, int n) {
        return whole(() -> {
            Object a = at(net), b = at(to);
            bad(a != null && a == b);
            passed = 0;
            Object[] source = need(a, Net.class).meshes, goal = need(b, Net.class).meshes;
            if (i < 0 || j < 0 || n < 0 || (long) i + n > source.length || (long) j
                + n > goal.length) throw new IndexOutOfBoundsException();
            while (passed < n) {
                goal[j + passed] = source[i + passed];
                source[i + passed] = null;
                passed++;
            }
            return n;
        });
    }
    int passed() { return whole(() -> passed); }
    int mesh(int net, int i) { return whole(() -> numberOf(need(at(net), Net.class).meshes[i])); }
    long says(int fish, int what, int n) {
        return wide(() -> {
            bad(what < 0 || what > 4);
            Fish f = need(at(fish), Fish.class);
            switch (what) {
                case 0: return f.share();
                case 1: return ((Rated) f).rate(n);
                case 2: return ((Eats) f).appetite(n);
                case 3: return ((Bears) f).eggs(n);
                default: return ((Priced) f).price(n);
            }
        });
    }
    int grams(int fish, int g) {
        return whole(() -> {
            bad(g < 0);
            Fish f = need(at(fish), Fish.class);
            int was = f.grams;
            f.grams = g;
            return was;
        });
    }
    int card() { return whole(() -> { room(1); return add(new Card()); }); }
    long field(int card, int i) {
        return wide(() -> {
            bad(i < 0 || i > 10);
            Card c = need(at(card), Card.class);
            if (i < 8) return bitsOf(c.fields[i], 0);
            return numberOf(i == 8 ? c.next : i == 9 ? c.mother : c.fish);
        });
    }
    int setField(int card, int i, long v) {
        return whole(() -> {
            bad(i < 0 || i > 10);
            Object bound = i < 8 ? null : at(v);
            Card c = need(at(card), Card.class);
            if (i < 8) store(c.fields[i], 0, v);
            else if (i == 8) c.next = (Card) bound;
            else if (i == 9) c.mother = (Card) bound;
            else c.fish = (Fish) bound;
            return 1;
        });
    }
    int along(int card) {
        return whole(() -> {
            Set<Card> met = new LinkedHashSet<>();
            for (Card c = need(at(card), Card.class); c != null; c = c.next) if (!met.add(c)) return -100 - met.size();
            return met.size();
        });
    }
    private static Row copyRow(Row first) {
        Row row = new Row();
        int n = Array.getLength(first.items);
        row.items = Array.newInstance(first.items.getClass().getComponentType(), n);
        System.arraycopy(first.items, 0, row.items, 0, n);
        return row;
    }
    int copy(int thing, boolean far) {
        return whole(() -> {
            Object first = need(at(thing), Object.class);
            if (first instanceof Grid g && far) {
                room(1 + (int) Arrays.stream(g.trays).filter(t -> t != null).count());
                Grid made = new Grid();
                made.lane = g.lane;
                made.trays = new Row[g.trays.length];
                for (int i = 0; i < made.trays.length; i++) {
                    if (g.trays[i] == null) continue;
                    made.trays[i] = copyRow(g.trays[i]);
                    add(made.trays[i]);
                }
                return add(made);
            }
            room(1);
            if (first instanceof Row r) return add(copyRow(r));
            if (first instanceof Grid g) {
                Grid made = new Grid();
                made.lane = g.lane;
                made.trays = g.trays.clone();
                return add(made);
            }
            if (first instanceof Net n) {
                Net made = new Net();
                made.meshes = n.meshes.clone();
                return add(made);
            }
            if (first instanceof Fish f) {
                Fish made = newFish(f.getClass());
                made.grams = f.grams;
                made.mother = f.mother;
                made.father = f.father;
                return add(made);
            }
            Card c = (Card) first, made = new Card();
            for (int i = 0; i < 8; i++) store(made.fields[i], 0, bitsOf(c.fields[i], 0));
            made.next = c.next;
            made.mother = c.mother;
            made.fish = c.fish;
            return add(made);
        });
    }
    private static boolean rowsMatch(Row a, Row b) {
        if (a == null || b == null || a == b) return a == b;
        int n = Array.getLength(a.items);
        if (laneOf(a.items) != laneOf(b.items) || n != Array.getLength(b.items)) return false;
        for (int i = 0; i < n; i++) if (bitsOf(a.items, i) != bitsOf(b.items, i)) return false;
        return true;
    }
    private static boolean matches(Object a, Object b) {
        if (a == b) return true;
        if (a instanceof Row r && b instanceof Row s) return rowsMatch(r, s);
        if (a instanceof Net n && b instanceof Net m) {
            if (n.meshes.getClass() != m.meshes.getClass() || n.meshes.length != m.meshes.length) return false;
            for (int i = 0; i < n.meshes.length; i++) if (n.meshes[i] != m.meshes[i]) return false;
            return true;
        }
        if (a instanceof Grid g && b instanceof Grid h) {
            if (g.lane != h.lane || g.trays.length != h.trays.length) return false;
            for (int i = 0; i < g.trays.length; i++) if (!rowsMatch(g.trays[i], h.trays[i])) return false;
            return true;
        }
        if (a instanceof Card c && b instanceof Card d) {
            for (int i = 0; i < 8; i++) if (bitsOf(c.fields[i], 0) != bitsOf(d.fields[i], 0)) return false;
            return c.next == d.next && c.mother == d.mother && c.fish == d.fish;
        }
        return false;
    }
    int match(int a, int b) {
        return whole(() -> {
            Object one = at(a), other = at(b);
            return matches(need(one, Object.class), need(other, Object.class)) ? 1 : 0;
        });
    }
    int told(int thing, int what) {
        int keep = failed;
        int answer = whole(() -> {
            bad(what < 0 || what > 5);
            Object t = need(at(thing), Object.class);
            boolean fish = t instanceof Fish;
            switch (what) {
                case 0: return t instanceof Row ? 0 : t instanceof Grid ? 1 : t instanceof Net ? 2 : fish ? 3 : 4;
                case 1:
                    if (t instanceof Row r) return laneOf(r.items);
                    if (t instanceof Grid g) return g.lane;
                    if (t instanceof Card) return -1;
                    return Arrays.asList(KINDS).indexOf(t instanceof Net n ? n.meshes.getClass().getComponentType() : t.getClass());
                case 2:
                    if (t instanceof Row r) return Array.getLength(r.items);
                    if (t instanceof Grid g) return g.trays.length;
                    return t instanceof Net n ? n.meshes.length : 0;
                case 3: return fish ? numberOf(((Fish) t).mother) : NONE;
                case 4: return fish ? numberOf(((Fish) t).father) : NONE;
                default: return 0;
            }
        });
        failed = keep;
        return answer;
    }
    int as(int fish, int kind) {
        return whole(() -> {
            bad(kind < 0 || kind > 7);
            KINDS[kind].cast(need(at(fish), Fish.class));
            return 1;
        });
    }

    // ---- readings

    private static double[] reals(Row row) {
        if (row.items instanceof float[] f) {
            double[] out = new double[f.length];
            for (int i = 0; i < out.length; i++) out[i] = f[i];
            return out;
        }
        return ((double[]) row.items).clone();
    }
    private static double middle(List<Double> numbers) {
        List<Double> sorted = new ArrayList<>(numbers);
        sorted.sort((x, y) -> x < y ? -1 : x > y ? 1 : 0);
        return sorted.isEmpty() ? Double.NaN : sorted.get((sorted.size() - 1) / 2);
    }
    long reading(int row, int what, boolean skip) {
        return wide(() -> {
            bad(what < 0 || what > 4);
            double[] all = reals(need(at(row), Row.class));
            List<Double> kept = new ArrayList<>();
            for (double d : all) if (d == d) kept.add(d);
            double out = Double.NaN;
            if (!skip && kept.size() < all.length) return Double.doubleToLongBits(out);
            if (what == 0) for (double d : kept) if (!(d >= out)) out = d;
            if (what == 1) for (double d : kept) if (!(d <= out)) out = d;
            if (what == 2) {
                double sum = 0.0;
                for (double d : kept) sum += d;
                out = sum / kept.size();
            }
            if (what == 3) out = middle(kept);
            if (what == 4 && kept.size() > 1) out = (kept.get(0) - kept.get(kept.size() - 1)) / (kept.size() - 1);
            return Double.doubleToLongBits(out);
        });
    }
    int test(int row, int i, int j, int op, boolean denied) {
        return whole(() -> {
            bad(op < 0 || op > 5);
            double[] all = reals(need(at(row), Row.class));
            double x = all[i], y = all[j];
            boolean is = op == 0 ? x < y : op == 1 ? x <= y : op == 2 ? x > y : op == 3 ? x >= y : op == 4 ? x == y : x != y;
            return (denied ? !is : is) ? 1 : 0;
        });
    }

    // ---- tanks

    private Tank tankAt(int tank) { bad(tank < 0 || tank > 5); return tanks[tank]; }
    int probes(int tank, int row) {
        return whole(() -> {
            Tank t = tankAt(tank);
            t.probes = (Row) at(row);
            t.reasons = new int[16];
            t.past.clear();
            return 1;
        });
    }
    int trust(int tank, int probe, boolean on) {
        return whole(() -> {
            bad(probe < 0 || probe > 15);
            tankAt(tank).reasons[probe] = on ? 0 : 4;
            return 1;
        });
    }
    int reason(int tank, int probe) {
        return whole(() -> { bad(probe < 0 || probe > 15); return tankAt(tank).reasons[probe]; });
    }
    private static double valueOf(Tank t, double[] all) {
        List<Double> kept = new ArrayList<>();
        for (int i = 0; i < all.length; i++) if (t.reasons[i] == 0 && all[i] == all[i]) kept.add(all[i]);
        return middle(kept);
    }
    long value(int tank) {
        return wide(() -> {
            Tank t = tankAt(tank);
            return Double.doubleToLongBits(valueOf(t, reals(t.probes)));
        });
    }
    int wish(int tank, int what, long bits) {
        return whole(() -> {
            bad(what < 0 || what > 3);
            double d = Double.longBitsToDouble(bits);
            bad(d != d || (what == 2 && d < 0.0));
            tankAt(tank).wishes[what] = d;
            return 1;
        });
    }
    long setting(int tank) { return wide(() -> Double.doubleToLongBits(tankAt(tank).setting)); }
    int minute() {
        return whole(() -> {
            minutes++;
            int fallen = 0;
            for (Tank t : tanks) {
                if (t.probes == null || laneOf(t.probes.items) < 6) continue;
                double[] now = reals(t.probes);
                double value = valueOf(t, now);
                int n = t.past.size();
                int[] next = t.reasons.clone();
                for (int i = 0; i < now.length; i++) {
                    if (t.reasons[i] != 0 || now[i] != now[i]) continue;
                    double one = n > 0 ? t.past.get(n - 1)[i] : Double.NaN, two = n > 1 ? t.past.get(n - 2)[i] : Double.NaN;
                    if (now[i] >= 20.0) next[i] = 3;
                    else if (Double.compare(now[i], one) == 0 && Double.compare(now[i], two) == 0) next[i] = 2;
                    else if (one - now[i] > 2.0 && t.went == t.went && !(t.went - value > 1.0)) next[i] = 1;
                    if (next[i] != 0) fallen++;
                }
                t.reasons = next;
                t.past.add(now);
                double v = t.went = valueOf(t, now);
                double u = (t.wishes[0] - v) * t.wishes[1], rate = t.wishes[2];
                u = u > rate ? rate : u < 0.0 - rate ? 0.0 - rate : u;
                double s = t.setting + u;
                t.setting = s != s ? t.wishes[3] : s > 100.0 ? 100.0 : s < 0.0 ? 0.0 : s;
            }
            return fallen;
        });
    }
    int trays(int tank, int grid) {
        return whole(() -> {
            Tank t = tankAt(tank);
            Grid g = (Grid) at(grid);
            if (g != null && g.lane != 4) throw new ClassCastException();
            t.grid = g;
            return 1;
        });
    }
    int eggs(int tank, int tray, int cell, int n, boolean picked) {
        return whole(() -> {
            bad(n < 1 || n > 100000);
            int[] items = (int[]) tankAt(tank).grid.trays[tray].items;
            long then = (long) items[cell] + (picked ? -n : n);
            lack(picked ? items[cell] < n : then > Integer.MAX_VALUE);
            return items[cell] = (int) then;
        });
    }
    private static int stage(Tank t) { return t.sum < 250 ? 0 : t.sum < 500 ? 1 : t.sum < 700 ? 2 : 3; }
    int warm(int tank, int warmth) {
        return whole(() -> {
            bad(warmth < 0 || warmth > 1000);
            tankAt(tank).sum += warmth;
            return stage(tanks[tank]);
        });
    }
    long swim(int tank) {
        return wide(() -> {
            Tank t = tankAt(tank);
            Row[] trays = t.grid.trays;
            lack(stage(t) < 3);
            long sum = 0;
            for (Row row : trays) if (row != null) for (int n : (int[]) row.items) if (n > 0) sum += n;
            for (Row row : trays) if (row != null) Arrays.fill((int[]) row.items, 0);
            t.number += sum;
            t.sum = 0;
            return sum;
        });
    }
    private static void herd(int n) { bad(n < 1 || n > 1000000); }
    long died(int tank, int n, int cause) {
        return wide(() -> {
            herd(n);
            bad(cause < 0 || cause > 3);
            lack(tankAt(tank).number < n);
            tanks[tank].dead[cause] += n;
            return tanks[tank].number -= n;
        });
    }
    int treat(int tank, int days) {
        return whole(() -> {
            bad(days < 0 || days > 1000);
            Tank t = tankAt(tank);
            if (t.waits < today + days) t.waits = today + days;
            return t.waits;
        });
    }
    long sell(int tank, int n) {
        return wide(() -> {
            herd(n);
            Tank t = tankAt(tank);
            lack(t.number < n || !(today > t.waits));
            return t.number -= n;
        });
    }
    long shift(int tank, int to, int n) {
        return wide(() -> {
            herd(n);
            Tank a = tankAt(tank), b = tankAt(to);
            bad(a == b);
            lack(a.number < n);
            a.number -= n;
            if (a.waits > b.waits) b.waits = a.waits;
            return b.number += n;
        });
    }
    int day(int n) {
        return whole(() -> {
            bad(n < 0 || n > 1000);
            if (today + n > 1000000) throw new Refused(FULL);
            return today += n;
        });
    }
    long tank(int tank, int what) {
        return wide(() -> {
            bad(what < 0 || what > 10);
            Tank t = tankAt(tank);
            switch (what) {
                case 0: return t.number;
                case 1: return t.sum;
                case 2: return stage(t);
                case 3: return t.waits;
                case 4: case 5: case 6: case 7: return t.dead[what - 4];
                case 8: return 0;
                case 9: return numberOf(t.probes);
                default: return numberOf(t.grid);
            }
        });
    }

    // ---- kin: a fraction is {upper number, power}

    private record Part(BigInteger up, int power) {
        Part least() {
            if (up.signum() == 0) return new Part(up, 0);
            int down = Math.min(up.getLowestSetBit(), power);
            return new Part(up.shiftRight(down), power - down);
        }
        Part halfWith(Part other) {
            int top = Math.max(power, other.power);
            Part half = new Part(up.shiftLeft(top - power).add(other.up.shiftLeft(top - other.power)), top + 1).least();
            lack(half.power > 60);
            return half;
        }
    }
    private Part kinOf(Fish a, Fish b, Map<Long, Part> known) {
        if (a == null || b == null) return new Part(BigInteger.ZERO, 0);
        long x = numberOf(a), y = numberOf(b);
        if (x > y) return kinOf(b, a, known);
        Part found = known.get(x * 1000 + y);
        if (found != null) return found;
        Part made = a == b
            ? new Part(BigInteger.ONE, 0).halfWith(kinOf(a.mother, a.father, known))
            : kinOf(a, b.mother, known).halfWith(kinOf(a, b.father, known));
        known.put(x * 1000 + y, made);
        return made;
    }
    long kin(int a, int b, boolean power) {
        return wide(() -> {
            Object one = at(a), other = at(b);
            Fish x = need(one, Fish.class), y = need(other, Fish.class);
            Part kin = kinOf(x, y, new HashMap<>());
            return power ? kin.power : kin.up.longValueExact();
        });
    }

    // ---- acts

    int step(int plan, int sort, int a, int b, int c, long v) {
        return whole(() -> {
            bad(plan < 0 || plan > 3 || sort < 0 || sort > 12);
            if (sort <= 2 || sort == 4) at(a);
            if (sort == 2) at(c);
            if (sort == 1) bad(b < 0 || b > 7);
            if (sort == 3 || sort == 5) tankAt(a);
            boolean own = a >= 20 && a <= 29;
            if (sort == 6) bad(!(own || (a >= 1 && a <= 6)));
            if (sort == 8) bad(!(own || a == -1 || (a >= 1 && a <= 7)));
            if (sort == 11) bad(a < 0 || a >= plan);
            if (plans.get(plan).size() == 24) throw new Refused(FULL);
            plans.get(plan).add(new Step(sort, a, b, c, v));
            return plans.get(plan).size() - 1;
        });
    }
    int wipe(int plan) {
        return whole(() -> {
            bad(plan < 0 || plan > 3);
            int had = plans.get(plan).size();
            plans.get(plan).clear();
            return had;
        });
    }

    private static final class Fail extends RuntimeException {
        private static final long serialVersionUID = 1;
        final int code;
        int cause;
        Fail(int code) { this.code = code; }
    }
    private static final class Answer extends RuntimeException {
        private static final long serialVersionUID = 1;
        final long v;
        Answer(long v) { this.v = v; }
    }

    /** A tree of steps: a block has its parts, a plain step none. */
    private static final class Node {
        Step step;
        List<Node> body = new ArrayList<>();
        List<Integer> takes = new ArrayList<>();
        List<List<Node>> catches = new ArrayList<>();
        List<Node> last;
    }

    private int place;
    private List<Node> parse(List<Step> steps, boolean inside) {
        List<Node> out = new ArrayList<>();
        while (place < steps.size()) {
            Step s = steps.get(place);
            if (s.sort >= 8 && s.sort <= 10) { lack(!inside); return out; }
            place++;
            Node node = new Node();
            node.step = s;
            out.add(node);
            if (s.sort != 7) continue;
            node.body = parse(steps, true);
            while (steps.get(place).sort == 8) {
                node.takes.add(steps.get(place++).a);
                node.catches.add(parse(steps, true));
            }
            if (steps.get(place).sort == 9) { place++; node.last = parse(steps, true); }
            lack(steps.get(place).sort != 10);
            place++;
        }
        lack(inside);
        return out;
    }
    private void parseAll(int plan, Map<Integer, List<Node>> trees) {
        place = 0;
        trees.put(plan, parse(plans.get(plan), false));
        for (Step s : plans.get(plan)) if (s.sort == 11) parseAll(s.a, trees);
    }

    private Map<Integer, List<Node>> trees;
    private int steps, failures, catches, lasts;
    private boolean unmet;
    private Set<Object> taken;

    private void mark(int m) { trace.addFirst(m); if (trace.size() > 60) trace.removeLast(); }

    private void runPlan(int plan) {
        Deque<Object> mine = new ArrayDeque<>();
        try {
            runSteps(trees.get(plan), mine);
        } finally {
            for (Object t : mine) { taken.remove(t); mark(300 + numberOf(t)); }
        }
    }
    private void runSteps(List<Node> nodes, Deque<Object> mine) {
        Deque<Integer> held = new ArrayDeque<>();
        try {
            for (Node node : nodes) {
                if (steps == 300) throw new Fail(30);
                steps++;
                if (node.step.sort == 7) runBlock(node, mine);
                else if (node.step.sort == 11) {
                    try { runPlan(node.step.a); } catch (Answer e) { continue; }
                } else if (node.step.sort == 12) throw new Answer(node.step.v);
                else runPlain(node.step, mine, held);
            }
        } finally {
            for (int t : held) mark(510 + t);
        }
    }
    private void runPlain(Step s, Deque<Object> mine, Deque<Integer> held) {
        int code;
        try {
            code = s.sort == 6 ? s.a : 0;
            if (code == 0) doIt(s, mine, held);
        } catch (RuntimeException e) {
            code = failureOf(e);
        }
        if (code != 0) throw new Fail(++failures == 13 ? 30 : code);
    }
    private void doIt(Step s, Deque<Object> mine, Deque<Integer> held) {
        switch (s.sort) {
            case 0: store(need(at(s.a), Row.class).items, s.b, s.v); break;
            case 1: lift(need(at(s.a), Card.class).fields[s.b], 0, s.v); break;
            case 2: {
                Object[] from = need(at(s.a), Net.class).meshes;
                Object fish = need(from[s.b], Fish.class);
                Object[] to = need(at(s.c), Net.class).meshes;
                if (s.v != (int) s.v) throw new IndexOutOfBoundsException();
                to[(int) s.v] = fish;
                if (from != to || s.b != s.v) from[s.b] = null;
                break;
            }
            case 3: lift(tanks[s.a].grid.trays[s.b].items, s.c, s.v); break;
            case 4: {
                Object t = need(at(s.a), Object.class);
                if (!taken.add(t)) throw new IllegalStateException();
                mine.addFirst(t);
                mark(100 + s.a);
                break;
            }
            default: held.addFirst(s.a); mark(500 + s.a);
        }
    }
    private void runBlock(Node node, Deque<Object> mine) {
        RuntimeException pending = null;
        try {
            try {
                runSteps(node.body, mine);
            } catch (Fail f) {
                int which = 0;
                if (f.code == 30) throw f;
                while (which < node.takes.size() && node.takes.get(which) != -1 && node.takes.get(which) != f.code) which++;
                if (which == node.takes.size()) throw f;
                catches++;
                mark(530 + f.code);
                runSteps(node.catches.get(which), mine);
            }
        } catch (Fail | Answer e) {
            pending = e;
        }
        if (node.last != null && !(pending instanceof Fail f && f.code == 30)) {
            lasts++;
            mark(520);
            try {
                runSteps(node.last, mine);
            } catch (Fail g) {
                if (pending instanceof Fail f) { g.cause = f.code; unmet = true; }
                throw g;
            } catch (Answer e) {
                if (pending instanceof Fail) unmet = true;
                throw e;
            }
        }
        if (pending != null) throw pending;
    }

    /** All cells of rows, nets and cards, as an act can change these alone. */
    private List<Object> snapshot() {
        List<Object> out = new ArrayList<>();
        for (Object t : things) {
            if (t instanceof Row r) out.add(copyRow(r).items);
            else if (t instanceof Net n) out.add(n.meshes.clone());
            else if (t instanceof Card c) {
                long[] bits = new long[8];
                for (int i = 0; i < 8; i++) bits[i] = bitsOf(c.fields[i], 0);
                out.add(bits);
            } else out.add(null);
        }
        return out;
    }
    private void restore(List<Object> from) {
        for (int k = 0; k < things.size(); k++) {
            Object t = things.get(k);
            if (t instanceof Row r) r.items = from.get(k);
            else if (t instanceof Net n) n.meshes = (Object[]) from.get(k);
            else if (t instanceof Card c) for (int i = 0; i < 8; i++) store(c.fields[i], 0, ((long[]) from.get(k))[i]);
        }
    }
    int act(int plan) {
        return whole(() -> {
            bad(plan < 0 || plan > 3);
            trees = new HashMap<>();
            try { parseAll(plan, trees); } catch (IndexOutOfBoundsException e) { lack(true); }
            List<Object> ahead = snapshot();
            steps = failures = catches = lasts = 0;
            unmet = false;
            taken = new LinkedHashSet<>();
            Fail out = null;
            int way = 1;
            try {
                runPlan(plan);
            } catch (Answer e) {
                answer = e.v;
                way = 2;
            } catch (Fail e) {
                out = e;
                unmet = true;
            }
            if (unmet) restore(ahead);
            int[] told = {steps, out == null ? 0 : out.code, out == null ? 0 : out.cause, catches, lasts, unmet ? 1 : 0};
            System.arraycopy(told, 0, acted, 0, 6);
            if (out == null) return way;
            failedAct = out.code;
            return -10 - out.code;
        });
    }
    private int failedAct;
    /** act() answers a failure without an exception that call() knows; its code is told here. */
    int actAndTell(int plan) {
        failedAct = 0;
        int answer = act(plan);
        if (failedAct != 0) failed = failedAct;
        return answer;
    }
    long answer() { return wide(() -> answer); }
    int acted(int what) { return what < 0 || what > 5 ? BAD : acted[what]; }
    int trace(int i) {
        if (i < 0 || i >= trace.size()) return 0;
        return new ArrayList<>(trace).get(i);
    }
    int failed() { return failed; }
    int count(int what) {
        if (what < 0 || what > 6) return BAD;
        return what == 0 ? things.size() : what == 1 ? today : what == 2 ? minutes : plans.get(what - 3).size();
    }
}

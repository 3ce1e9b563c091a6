import java.lang.reflect.Method;
import java.util.ArrayList;
import java.util.HashMap;
import java.util.List;
import java.util.Map;
import java.util.Random;

/** Long runs of calls, chosen by a fixed seed, on HatchHouse and on Model side by side: every answer must be the same. */
public final class ModelTest {
    /**
     * The calls and what their numbers are: t a thing, r a row, g a grid, n a net, f a fish, c a card, l a lane, k a kind, s a
     * size, i an index, S a step's sort, b bits, v a long, w and q which of what is told, T a tank, p a probe, P a plan,
     * d a small number, o yes or no.
     */
    private static final String[] CALLS = {
        "row l s", "put r i b", "get r i", "grid l s s", "tray g i", "setTray g i r", "cell g i i", "raise g i i v o",
        "move r i r i s", "net k s", "fish k d f f", "putIn n i f", "letOut n i k", "pass n i n i s", "passed", "mesh n i",
        "says f q d", "grams f d", "card", "field c i", "setField c i b", "setField c w c", "along c", "copy t o", "match t t",
            "told t w", "as f k",
        "reading r q o", "test r i i q o", "probes T r", "trust T p o", "reason T p", "value T", "wish T q b", "setting T",
        "minute", "trays T g", "eggs T i i d o", "warm T d", "swim T", "died T d q", "treat T d", "sell T d", "shift T T d",
        "day d", "tank T w", "kin f f o", "step P S t i t v", "wipe P", "act P", "answer", "acted w", "trace i", "failed",
            "count w"};
    private static final int[] EDGES = {Integer.MIN_VALUE, Integer.MAX_VALUE, -2, -100, 17, 120, 121, 1000, 1001, 100000, 100001,
        1000000, 1000001};
    private static final double[] REALS = {0.0, -0.0, 1.0, -1.0, 2.5, 7.0, 6.5, 4.25, 5.0, 3.0, 19.999, 20.0, 21.5, 100.0, 1e300,
        -1e300,
        Double.MAX_VALUE, -Double.MAX_VALUE, Double.MIN_VALUE, Double.MIN_NORMAL, 1.0 / 3, Double.POSITIVE_INFINITY,
            Double.NEGATIVE_INFINITY, Double.NaN};

    private final Random random;
    private final Map<String, Method> house = methods(HatchHouse.class);
    private final Map<String, Method> model = methods(Model.class);
    private HatchHouse x;
    private Model y;
    private final List<String> told = new ArrayList<>();
    private final int[] sorts = new int[120];
    private int mood;

    private ModelTest(long seed) { random = new Random(seed); }

    private static Map<String, Method> methods(Class<?> of) {
        Map<String, Method> out = new HashMap<>();
        for (Method m : of.getDeclaredMethods()) if (!m.isSynthetic()) { m.setAccessible(true); out.put(m.getName(), m); }
        return out;
    }

    private long both(String name, Object... args) throws Exception {
        Method of = name.equals("act") ? model.get("actAndTell") : model.get(name);
        long want = ((Number) of.invoke(y, args)).longValue();
        long got = ((Number) house.get(name).invoke(x, args)).longValue();
        told.add(name + java.util.Arrays.toString(args) + " = " + got);
        if (got != want) throw new IllegalStateException(name + ": answered " + got + ", due is " + want);
        return got;
    }

    private int pick(int n) { return random.nextInt(n); }
    private boolean rarely(int oneIn) { return pick(oneIn) == 0; }

    private int thing(int sort) throws Exception {
        int made = x.count(0);
        if (rarely(25)) return pick(4) == 0 ? EDGES[pick(EDGES.length)] : pick(2) == 0 ? -1 : made;
        if (made == 0) return -1;
        for (int k = 0; k < 12; k++) {
            int t = pick(made);
            if (sort < 0 || sorts[t] == sort) return t;
        }
        return -1;
    }

    private long bits() {
        switch (pick(9)) {
            case 0: return random.nextLong();
            case 1: return pick(300) - 150;
            case 2: return Float.floatToRawIntBits((float) REALS[pick(REALS.length)]);
            case 3: return Float.floatToRawIntBits((float) (random.nextInt(80) / 4.0));
            case 4: return Double.doubleToRawLongBits(random.nextInt(80) / 4.0);
            case 5: return Double.doubleToRawLongBits(random.nextGaussian() * 8);
            case 6: return random.nextInt();
            default: return Double.doubleToRawLongBits(REALS[pick(REALS.length)]);
        }
    }

    private long number() {
        switch (pick(6)) {
            case 0: return random.nextLong();
            case 1: return random.nextLong() >> pick(64);
            case 2: return EDGES[pick(EDGES.length)];
            default: return pick(40) - 20;
        }
    }

    private int small(int bound) { return rarely(30) ? EDGES[pick(EDGES.length)] : pick(bound + 2) - 1; }

    private Object argument(char what) throws Exception {
        switch (what) {
            case 't': return thing(-1);
            case 'r': return rarely(12) ? thing(-1) : thing(0);
            case 'g': return rarely(12) ? thing(-1) : thing(1);
            case 'n': return rarely(12) ? thing(-1) : thing(2);
            case 'f': return rarely(12) ? thing(-1) : rarely(6) ? -1 : thing(3);
            case 'c': return rarely(12) ? thing(-1) : rarely(9) ? -1 : thing(4);
            case 'l': return mood == 1 && pick(3) > 0 ? (pick(3) > 0 ? 7 : 6) : small(8);
            case 'k': return rarely(3) ? small(8) : 1 + pick(4);
            case 's': return rarely(4) ? small(17) : 1 + pick(6);
            case 'i': return rarely(8) ? small(10) : pick(3);
            case 'w': return small(11);
            case 'q': return rarely(20) ? small(6) : pick(5);
            case 'b': return bits();
            case 'v': return number();
            case 'T': return rarely(25) ? small(6) : pick(mood == 1 ? 2 : 3);
            case 'p': return rarely(12) ? small(16) : pick(6);
            case 'P': return rarely(25) ? small(4) : pick(4);
            case 'S': return small(12);
            case 'd': return rarely(4) ? (int) number() : rarely(3) ? pick(1002) : pick(60);
            default: return random.nextBoolean();
        }
    }

    private static Object fixed(String part, Class<?> type) {
        int n = Integer.parseInt(part);
        return type == boolean.class ? (Object) (n == 1) : (Object) n;
    }

    private void oneCall(String call) throws Exception {
        String[] parts = call.split(" ");
        Class<?>[] types = house.get(parts[0]).getParameterTypes();
        Object[] args = new Object[parts.length - 1];
        for (int i = 0; i < args.length; i++) {
            String part = parts[i + 1];
            Object a = Character.isDigit(part.charAt(0)) ? fixed(part, types[i]) : argument(part.charAt(0));
            args[i] = types[i] == long.class && a instanceof Integer n ? (Object) (long) n : a;
        }
        int made = x.count(0);
        both(parts[0], args);
        for (int t = made; t < x.count(0); t++) sorts[t] = x.told(t, 0);
    }

    // ---- plans whose blocks are mostly whole

    private int plan;
    private int left;

    private void add(int sort, int a, int b, int c, long v) throws Exception {
        both("step", plan, sort, a, b, c, v);
        left--;
    }

    private void plainStep() throws Exception {
        switch (pick(12)) {
            case 0: add(0, (int) argument('r'), (int) argument('i'), 0, bits()); break;
            case 1: add(1, (int) argument('c'), pick(8), 0, number()); break;
            case 2: case 3: add(2, (int) argument('n'), pick(3), (int) argument('n'), rarely(8) ? number() : pick(3)); break;
            case 4: add(3, pick(2), pick(3), pick(3), number()); break;
            case 5: add(4, (int) argument('t'), 0, 0, 0); break;
            case 6: add(5, pick(6), 0, 0, 0); break;
            case 7: case 8: add(6, rarely(2) ? 1 + pick(6) : 20 + pick(3), 0, 0, 0); break;
            case 9: case 10: if (plan > 0) add(11, rarely(2) ? plan - 1 : pick(plan), 0, 0, 0); break;
            default: if (rarely(2)) add(12, 0, 0, 0, number());
        }
    }

    private void steps(int depth, int most) throws Exception {
        for (int n = pick(most + 1); n > 0 && left > 0; n--) {
            if (depth < 8 && left > 6 && rarely(3)) block(depth + 1); else plainStep();
        }
    }

    private void block(int depth) throws Exception {
        left -= 4;
        add(7, 0, 0, 0, 0);
        steps(depth, 3);
        for (int n = pick(3); n > 0 && left > 0; n--) {
            add(8, rarely(2) ? -1 : rarely(2) ? 1 + pick(7) : 20 + pick(3), 0, 0, 0);
            steps(depth, 2);
        }
        left += 2;
        if (rarely(2)) {
            add(9, 0, 0, 0, 0);
            steps(depth, 2);
        }
        left += 2;
        if (!rarely(80)) add(10, 0, 0, 0, 0);
    }

    private void planAndAct() throws Exception {
        plan = rarely(3) ? 3 : pick(4);
        both("wipe", plan);
        left = 24;
        boolean full = rarely(3);
        for (int n = 1 + pick(4); left > 3 && (full || n > 0); n--) { if (rarely(4)) plainStep(); else block(0); }
        both("act", plan);
        for (int i = 0; i < 6; i++) both("acted", i);
        for (int i = 0; i < 62; i += 1 + pick(9)) both("trace", i);
        both("failed");
        both("answer");
    }

    private void look() throws Exception {
        for (int t = 0; t < x.count(0); t++) {
            for (int what = 0; what < 6; what++) both("told", t, what);
            int size = x.told(t, 2);
            for (int i = 0; i < size; i++) both(sorts[t] == 0 ? "get" : sorts[t] == 1 ? "tray" : "mesh", t, i);
            if (sorts[t] == 4) for (int i = 0; i < 11; i++) both("field", t, i);
        }
        for (int k = 0; k < 6; k++) {
            for (int what = 0; what < 11; what++) both("tank", k, what);
            for (int p = 0; p < 16; p++) both("reason", k, p);
            both("value", k);
            both("setting", k);
        }
    }

    /** Warm probes of one tank, minute by minute. */
    private void probesAndMinute() throws Exception {
        int tank = pick(2);
        int row = (int) x.tank(tank, 9);
        if (row < 0) { oneCall("probes T r"); return; }
        int n = x.told(row, 2);
        for (int k = pick(4); k > 0 && n > 0; k--) {
            double d = rarely(6) ? REALS[pick(REALS.length)] : 4 + random.nextInt(20) / 4.0;
            both("put", row, pick(n), x.told(row,
                1) == 6 ? (long) Float.floatToRawIntBits((float) d) : Double.doubleToRawLongBits(d));
        }
        if (rarely(3)) both("wish", tank, pick(4),
            Double.doubleToRawLongBits(rarely(5) ? REALS[pick(REALS.length)] : random.nextInt(60) / 4.0));
        both("minute");
        for (int p = 0; p < 16; p++) both("reason", tank, p);
        both("setting", tank);
        both("value", tank);
    }

    /** Some things of each sort, so that most calls find what they are for. */
    private void stockUp() throws Exception {
        for (int lane : new int[] {4, 7, 6, pick(8), pick(8)}) oneCall("row " + lane + " s");
        for (int k = 0; k < 3; k++) oneCall("card");
        for (int kind = 1; kind < 5; kind++) oneCall("fish " + kind + " d f f");
        for (int kind : new int[] {0, 1 + pick(7), 5, 0}) oneCall("net " + kind + " s");
        oneCall("grid 4 3 3");
        both("trays", 0, x.count(0) - 1);
        oneCall("grid l 2 3");
        for (int k = 0; k < 8; k++) oneCall("putIn n i f");
    }

    private void tankLife() throws Exception {
        String[] calls = {"eggs T i i d o", "eggs 0 i i d 0", "warm T 400", "swim T", "died T 1 w", "sell T d", "shift T T d",
            "shift 0 T 5",
            "treat T d", "treat T 3", "day 1", "day d", "trays T g", "setTray g i r", "died 0 2 1", "sell 0 3", "put r i v"};
        oneCall(calls[pick(calls.length)]);
    }

    private void kinLife() throws Exception {
        int made = x.count(0);
        if (made > 10 && rarely(3)) both("kin", made - 1 - pick(3), made - 1 - pick(10), random.nextBoolean());
        else if (made > 10 && rarely(12)) both("fish", 1, 1, made - 1, pick(made));
        else if (made > 10) both("fish", 1 + pick(4), 1, made - 1 - pick(2), made - 1 - pick(8));
        else oneCall("fish k d f f");
        for (int t = made; t < x.count(0); t++) sorts[t] = x.told(t, 0);
    }

    private void life() throws Exception {
        switch (mood) {
            case 1: probesAndMinute(); break;
            case 2: planAndAct(); break;
            case 3: tankLife(); break;
            case 4: kinLife(); break;
            default: oneCall(CALLS[pick(29)]);
        }
    }

    private void run() throws Exception {
        x = new HatchHouse();
        y = new Model();
        mood = pick(6);
        int most = 40 + pick(150);
        if (!rarely(8) && mood != 4) stockUp();
        for (int k = 0; k < most; k++) {
            if (pick(3) > 0) life(); else oneCall(CALLS[pick(CALLS.length)]);
            both("failed");
        }
        look();
    }

    public static void main(String[] args) {
        int runs = args.length > 1 ? Integer.parseInt(args[1]) : 3000;
        int first = args.length > 2 ? Integer.parseInt(args[2]) : 0;
        for (int seed = first; seed < first + runs; seed++) {
            ModelTest test = new ModelTest(seed);
            try {
                test.run();
            } catch (Exception e) {
                int from = Math.max(0, test.told.size() - 12);
                System.out.println("run " + seed + ": " + (e.getCause() == null ? e : e.getCause()));
                for (String line : test.told.subList(from, test.told.size())) System.out.println("    " + line);
                if (e.getCause() != null) e.getCause().printStackTrace(System.out);
                System.exit(1);
            }
        }
        System.out.println(runs + " runs are as the model has them");
    }
}

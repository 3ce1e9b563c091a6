import java.lang.reflect.Method;
import java.util.HashMap;
import java.util.Map;

/**
 * Tests as lines of calls, 'row 4 3 = 0; put 0 1 5.0d = 1': a call, its numbers, and what it is due to answer. Numbers are as in
 * Java, or 5.0d, 5.0f (the bits of a double, a float), NaN, inf, -inf (bits of doubles), min, max (of ints). A call that answers
 * a long may be followed by '! n': what failed() is due to tell then.
 */
final class Script {
    private static final Map<String, Method> CALLS = calls();
    private static int wrong = 0;

    private Script() { }

    private static Map<String, Method> calls() {
        Map<String, Method> out = new HashMap<>();
        for (Method m : HatchHouse.class.getDeclaredMethods()) out.put(m.getName(), m);
        return out;
    }

    private static long number(String word) {
        switch (word) {
            case "NaN": return 0x7ff8000000000000L;
            case "inf": return 0x7ff0000000000000L;
            case "-inf": return 0xfff0000000000000L;
            case "min": return Integer.MIN_VALUE;
            case "max": return Integer.MAX_VALUE;
            default:
        }
        if (word.startsWith("0x")) return Long.parseUnsignedLong(word.substring(2), 16);
        if (word.endsWith("d")) return Double.doubleToLongBits(Double.parseDouble(word));
        if (word.endsWith("f")) return Float.floatToIntBits(Float.parseFloat(word));
        return Long.parseLong(word);
    }

    private static Object argument(String word, Class<?> type) {
        if (type == boolean.class) return word.equals("yes");
        if (type == int.class) return (Object) Math.toIntExact(number(word));
        return (Object) number(word);
    }

    private static long call(HatchHouse x, String[] words) throws ReflectiveOperationException {
        Method m = CALLS.get(words[0]);
        Class<?>[] types = m.getParameterTypes();
        if (types.length != words.length - 1) throw new IllegalArgumentException("numbers of " + words[0]);
        Object[] args = new Object[types.length];
        for (int i = 0; i < args.length; i++) args[i] = argument(words[i + 1], types[i]);
        return ((Number) m.invoke(x, args)).longValue();
    }

    private static void due(String what, long got, long want) {
        if (got == want) return;
        wrong++;
        System.out.println(what + " answered " + got + ", due is " + want);
    }

    private static void one(HatchHouse x, String name, String line) throws ReflectiveOperationException {
        String[] halves = line.split(" = ");
        String[] answer = halves[1].trim().split(" ! ");
        due(name + ": " + halves[0].trim(), call(x, halves[0].trim().split(" +")), number(answer[0].trim()));
        if (answer.length > 1) due(name + ": failed() behind " + halves[0].trim(), x.failed(), number(answer[1].trim()));
    }

    /** Runs lines on an object; 'n * line' runs one n times, in which # is the number of the turn. */
    static HatchHouse on(HatchHouse x, String name, String... lines) {
        try {
            for (String all : lines) {
                for (String line : all.split(";")) {
                    String[] times = line.trim().split(" \\* ");
                    int n = times.length > 1 ? Integer.parseInt(times[0]) : 1;
                    for (int k = 0; k < n; k++) one(x, name, times[times.length - 1].replace("#", "" + k));
                }
            }
        } catch (ReflectiveOperationException | RuntimeException e) {
            wrong++;
            System.out.println(name + ": " + (e.getCause() == null ? e : e.getCause()));
        }
        return x;
    }

    /** Runs lines on a new object. */
    static HatchHouse run(String name, String... lines) {
        return on(new HatchHouse(), name, lines);
    }

    static void end() {
        if (wrong == 0) return;
        System.out.println(wrong + " answers are not as due");
        System.exit(1);
    }
}

import java.lang.reflect.Method;
import java.util.ArrayList;
import java.util.HashMap;
import java.util.List;
import java.util.Map;
import java.util.Set;
import java.util.regex.Pattern;

/**
 * Tests as lines of calls, 'row 4 3 = 0; put 0 1 5.0d = 1': a call, its numbers, and what it is due to answer. Numbers are as in
 * Java, or 5.0d, 5.0f (the bits of a double, a float), NaN, inf, -inf (bits of doubles), min, max (of ints), NONE. What is due may
 * be a refusal by its name instead (BAD, FULL, LACK, NULL, .. SPENT, F20 .. F29): then the answer is its code, or 0 as a long.
 *
 * Behind each call these are tested without being told: that failed() has the refusal, or 0 ('! n' tells it where a number is due);
 * that a call which is refused, or only looks, has changed nothing that can be seen (but where the document says so); that an act
 * which was undone has left the house as it was. Ahead of other calls 'still' asks for that, too.
 */
final class Script {
    private static final Map<String, Integer> REFUSALS = Map.ofEntries(Map.entry("BAD", -1), Map.entry("FULL", -2),
        Map.entry("LACK", -3), Map.entry("NULL", 1), Map.entry("INDEX", 2), Map.entry("CAST", 3), Map.entry("SIZE", 4),
        Map.entry("STORE", 5), Map.entry("ZERO", 6), Map.entry("STATE", 7), Map.entry("SPENT", 30));
    /** These leave alone what failed() tells. */
    private static final Set<String> QUIET = Set.of("failed", "told", "trace", "acted", "count");
    private static final Set<String> LOOKS = Set.of("get", "tray", "cell", "passed", "mesh", "says", "field", "along", "match",
        "told", "as", "reading", "test", "reason", "value", "setting", "tank", "kin", "answer", "acted", "trace", "failed",
            "count");
    private static final Map<String, Method> METHODS = methods();
    private static final Pattern TURN = Pattern.compile("#((?:[+-][0-9]+)?)");
    private static final int MOST_CALLS = 512;
    private static int wrong = 0;

    /** A call with its numbers, that can be made again on another object. */
    record Call(Method method, Object[] args) {
        static Call of(String name, Object... args) {
            return new Call(METHODS.get(name), args);
        }

        long on(HatchHouse x) {
            try {
                return ((Number) method.invoke(x, args)).longValue();
            } catch (ReflectiveOperationException e) {
                throw new IllegalStateException(e.getCause() == null ? e : e.getCause());
            }
        }
    }

    private final String name;
    private final HatchHouse house = new HatchHouse();
    private final List<Call> done = new ArrayList<>();
    /** What was seen behind the latest call, if it was looked at. */
    private List<Long> seen = null;
    private int calls = 0;

    private Script(String name) {
        this.name = name;
    }

    private static Map<String, Method> methods() {
        Map<String, Method> out = new HashMap<>();
        for (Method m : HatchHouse.class.getDeclaredMethods()) out.put(m.getName(), m);
        return out;
    }

    private static long number(String word) {
        switch (word) {
            case "NaN": return 0x7ff8000000000000L;
            case "inf": return 0x7ff0000000000000L;
            case "-inf": return 0xfff0000000000000L;
            case "min": return Integer.MIN_VALUE;
            case "max": return Integer.MAX_VALUE;
            case "NONE": return -1;
            default:
        }
        if (word.startsWith("0x")) return Long.parseUnsignedLong(word.substring(2), 16);
        if (word.endsWith("d")) return Double.doubleToLongBits(Double.parseDouble(word));
        if (word.endsWith("f")) return Float.floatToIntBits(Float.parseFloat(word));
        return Long.parseLong(word);
    }

    private static Object argument(String word, Class<?> type) {
        if (type == boolean.class && !word.equals("yes") && !word.equals("no")) throw new IllegalArgumentException(word);
        if (type == boolean.class) return word.equals("yes");
        if (type == int.class) return (Object) Math.toIntExact(number(word));
        return (Object) number(word);
    }

    private static Call parsed(String[] words) {
        Method m = METHODS.get(words[0]);
        if (m == null) throw new IllegalArgumentException("no call " + words[0]);
        Class<?>[] types = m.getParameterTypes();
        if (types.length != words.length - 1) throw new IllegalArgumentException("numbers of " + words[0]);
        Object[] args = new Object[types.length];
        for (int i = 0; i < args.length; i++) args[i] = argument(words[i + 1], types[i]);
        return new Call(m, args);
    }

    private static Integer refusal(String word) {
        return word.matches("F2[0-9]") ? Integer.valueOf(word.substring(1)) : REFUSALS.get(word);
    }

    private static long told(Call call, int refusal) {
        if (call.method().getReturnType() == long.class) return 0;
        return refusal < 0 ? refusal : -10 - refusal;
    }

    private void due(String what, long got, long want) {
        if (got == want) return;
        wrong++;
        System.out.println(name + ": " + what + " answered " + got + ", due is " + want);
    }

    private void one(String line) {
        boolean still = line.startsWith("still ");
        String[] halves = line.substring(still ? 6 : 0).split(" = ");
        String text = halves[0].trim();
        String[] answer = halves[1].trim().split(" ! ");
        Call call = parsed(text.split(" +"));
        boolean quiet = QUIET.contains(call.method().getName());
        long failedAhead = quiet ? house.failed() : 0;
        Integer refusal = refusal(answer[0].trim());
        long got = call.on(house);
        long failed = house.failed();
        calls += quiet ? 3 : 2;
        due(text, got, refusal != null ? told(call, refusal) : number(answer[0].trim()));
        if (quiet) due("failed() behind " + text, failed, failedAhead);
        else if (refusal != null) due("failed() behind " + text, failed, refusal);
        else if (answer.length > 1) due("failed() behind " + text, failed, number(answer[1].trim()));
        else if (got >= 0 || answer[0].trim().equals("NONE")) due("failed() behind " + text, failed, 0);
        if (!quiet && failed != 0) due(text + " (by failed())", got, told(call, (int) failed));
        if (still) lookAtTheHouse(call, text);
        look(call, text, quiet ? 0 : failed);
    }

    /** Whether nothing has changed by the latest call, if it was refused, only looks, or was undone. */
    private void look(Call call, String text, long failed) {
        String of = call.method().getName();
        boolean acted = of.equals("act") && failed >= 0;
        boolean passFailed = of.equals("pass") && failed > 0;
        // What was passed, acted and traced is told anew by these, but the house is as it was.
        if ((acted && house.acted(5) == 1) || (passFailed && failed != REFUSALS.get("STORE"))) lookAtTheHouse(call, text);
        boolean mayChange = acted || passFailed;
        boolean still = LOOKS.contains(of) || (failed != 0 && !mayChange);
        List<Long> ahead = still && seen == null ? Sight.of(done) : seen;
        done.add(call);
        seen = still ? Sight.of(done) : null;
        if (!still || seen.equals(ahead)) return;
        wrong++;
        System.out.println(name + ": " + text + " has changed what can be seen");
    }

    private void lookAtTheHouse(Call call, String text) {
        List<Call> with = new ArrayList<>(done);
        with.add(call);
        if (Sight.ofTheHouse(done).equals(Sight.ofTheHouse(with))) return;
        wrong++;
        System.out.println(name + ": " + text + " has changed the house");
    }

    /** Runs lines on a new object; 'n * line' runs one n times, in which # is the number of the turn, #+5 five more. */
    static void run(String name, String... lines) {
        Script script = new Script(name);
        try {
            for (String all : lines) {
                for (String line : all.split(";")) script.turns(line.trim());
            }
        } catch (RuntimeException e) {
            wrong++;
            System.out.println(name + ": " + e);
        }
        if (script.calls > MOST_CALLS) {
            wrong++;
            System.out.println(name + ": " + script.calls + " calls on one object, of which the document tells nothing");
        }
    }

    private void turns(String line) {
        if (line.isEmpty()) return;
        String[] times = line.split(" \\* ");
        int n = times.length > 1 ? Integer.parseInt(times[0]) : 1;
        for (int k = 0; k < n; k++) {
            int turn = k;
            one(TURN.matcher(times[times.length - 1]).replaceAll(m -> "" + (turn
                + (m.group(1).isEmpty() ? 0 : Integer.parseInt(m.group(1))))));
        }
    }

    static void end() {
        if (wrong == 0) return;
        System.out.println(wrong + " answers are not as due");
        System.exit(1);
    }
}

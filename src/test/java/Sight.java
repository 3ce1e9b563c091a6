import java.util.ArrayList;
import java.util.List;

/**
 * All that calls can tell of a house. It is looked at on houses that are made anew by the same calls, so that no house is asked
 * more than the document allows, and that looks may change it: what is hidden (earlier minutes, wishes, steps) is told by minutes
 * and acts.
 */
final class Sight {
    private static final int MOST_CALLS = 500;
    private static final int TANKS = 6, PROBES = 16, PLANS = 4;

    private Sight() { }

    static List<Long> of(List<Script.Call> calls) {
        List<Long> out = ofTheHouse(calls);
        look(calls, ofTheDesk(), out);
        out.addAll(answers(calls, ofActs("trace", 0)));
        return out;
    }

    /** All but what is told of the latest calls and acts. */
    static List<Long> ofTheHouse(List<Script.Call> calls) {
        List<Long> out = new ArrayList<>();
        look(calls, ofThings(calls), out);
        look(calls, ofTanks(), out);
        out.addAll(answers(calls, ofMinutes()));
        out.addAll(answers(calls, ofActs("acted", 5)));
        return out;
    }

    private static HatchHouse again(List<Script.Call> calls) {
        HatchHouse x = new HatchHouse();
        for (Script.Call call : calls) call.on(x);
        return x;
    }

    private static List<Long> answers(List<Script.Call> calls, List<Script.Call> looks) {
        HatchHouse x = again(calls);
        List<Long> out = new ArrayList<>();
        for (Script.Call look : looks) out.add(look.on(x));
        return out;
    }

    /** Looks that change nothing of one another: so many at a time as one house may still be asked. */
    private static void look(List<Script.Call> calls, List<Script.Call> looks, List<Long> out) {
        int most = Math.max(100, MOST_CALLS - calls.size());
        for (int from = 0; from < looks.size(); from += most) {
            out.addAll(answers(calls, looks.subList(from, Math.min(looks.size(), from + most))));
        }
    }

    private static List<Script.Call> ofThings(List<Script.Call> calls) {
        HatchHouse x = again(calls);
        List<Script.Call> looks = new ArrayList<>();
        for (int what = 0; what < 7; what++) looks.add(Script.Call.of("count", what));
        int many = x.count(0);
        for (int thing = 0; thing < many; thing++) {
            for (int what = 0; what < 6; what++) looks.add(Script.Call.of("told", thing, what));
            int sort = x.told(thing, 0);
            String of = sort == 0 ? "get" : sort == 1 ? "tray" : sort == 2 ? "mesh" : "field";
            int size = sort == 4 ? 11 : x.told(thing, 2);
            for (int i = 0; i < size; i++) looks.add(Script.Call.of(of, thing, i));
            // GRAMS are told by their change alone; a house that is looked at is not used again.
            if (sort == 3) looks.add(Script.Call.of("grams", thing, 0));
        }
        return looks;
    }

    private static List<Script.Call> ofTanks() {
        List<Script.Call> looks = new ArrayList<>();
        for (int tank = 0; tank < TANKS; tank++) {
            for (int what = 0; what < 11; what++) looks.add(Script.Call.of("tank", tank, what));
            for (int probe = 0; probe < PROBES; probe++) looks.add(Script.Call.of("reason", tank, probe));
            looks.add(Script.Call.of("value", tank));
            looks.add(Script.Call.of("setting", tank));
        }
        return looks;
    }

    private static List<Script.Call> ofTheDesk() {
        List<Script.Call> looks = new ArrayList<>(List.of(Script.Call.of("passed"), Script.Call.of("answer")));
        for (int what = 0; what < 6; what++) looks.add(Script.Call.of("acted", what));
        for (int i = 0; i < 61; i++) looks.add(Script.Call.of("trace", i));
        return looks;
    }

    private static List<Script.Call> ofMinutes() {
        List<Script.Call> looks = new ArrayList<>();
        for (int minute = 0; minute < 2; minute++) {
            looks.add(Script.Call.of("minute"));
            for (int tank = 0; tank < TANKS; tank++) {
                for (int probe = 0; probe < PROBES; probe++) looks.add(Script.Call.of("reason", tank, probe));
                looks.add(Script.Call.of("setting", tank));
            }
        }
        return looks;
    }

    /** Acts by all plans, and what is told of them: acted() from 0 on, or the latest of the trace. */
    private static List<Script.Call> ofActs(String told, int last) {
        List<Script.Call> looks = new ArrayList<>();
        for (int plan = 0; plan < PLANS; plan++) {
            looks.add(Script.Call.of("act", plan));
            for (int what = 0; what <= last; what++) looks.add(Script.Call.of(told, what));
        }
        return looks;
    }
}

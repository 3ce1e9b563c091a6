import java.util.List;

/** The boundaries that part 5 and promises 48 to 53 name, a sentence a run. */
public final class LimitsOfActsTest {
    /**
     * Row 0 (3 ints), card 1, trout 2, char 3, net 4 (of trout), net 5 (of all) with both, row 6 (2 ints) as the first of two trays
     * of grid 7, of tank 0 (the second is pulled out), row 8 (a long); 9 is no THING.
     */
    private static final String HOUSE = "row 4 3 = 0; card = 1; fish 1 10 -1 -1 = 2; fish 3 20 -1 -1 = 3; net 1 2 = 4; "
        + "net 0 2 = 5; putIn 5 0 2 = 1; putIn 5 1 3 = 1; row 4 2 = 6; grid 4 2 -1 = 7; setTray 7 0 6 = 1; trays 0 7 = 1; "
            + "row 5 1 = 8; ";
    private static final List<String> SORTS = List.of("PUT", "RAISE", "GO", "EGGS", "TAKE", "HOLD", "FAIL", "BEGIN", "CATCH",
        "LAST", "END", "RUN", "ANSWER");

    public static void main(String[] args) {
        plans();
        sorts();
        things();
        tanks();
        failures();
        others();
        fullPlans();
        wiped();
        acts();
        blocksThatAreNotAsTold();
        blocksThatAre();
        blocksOfOthers();
        puts();
        raises();
        goes();
        goesWhere();
        eggs();
        takes();
        holds();
        fails();
        catches();
        catchesAndSteps();
        lasts();
        lastsThatFail();
        lastsThatAnswer();
        causes();
        causesOfSpent();
        letGo();
        putBack();
        runs();
        counted();
        spentBySteps();
        spentByFailures();
        spentMeetsNothing();
        undone();
        notUndone();
        answers();
        acted();
        trace();
        Script.end();
    }

    /** Lines that make a PLAN of 'PUT row i v, RAISE card field v, GO net i to j, EGGS tank tray cell v, TAKE thing, BEGIN, ..'. */
    private static String plan(int number, String steps) {
        StringBuilder lines = new StringBuilder();
        int place = 0;
        for (String step : steps.split(", ")) {
            String[] w = step.trim().split(" ");
            int sort = SORTS.indexOf(w[0]);
            String numbers;
            switch (w[0]) {
                case "PUT": case "RAISE": numbers = w[1] + " " + w[2] + " 0 " + w[3]; break;
                case "GO": case "EGGS": numbers = w[1] + " " + w[2] + " " + w[3] + " " + w[4]; break;
                case "ANSWER": numbers = "0 0 0 " + w[1]; break;
                default: numbers = (w.length > 1 ? w[1] : "0") + " 0 0 0";
            }
            lines.append("step " + number + " " + sort + " " + numbers + " = " + place++ + "; ");
        }
        return lines.toString();
    }

    /** A new house, PLAN 0 of these STEPS, and lines. */
    private static void act(String name, String steps, String... lines) {
        Script.run(name, HOUSE, plan(0, steps), String.join("; ", lines));
    }

    private static String times(int n, String steps) {
        return String.join(", ", java.util.Collections.nCopies(n, steps));
    }

    private static void plans() {
        Script.run("48: PLAN (0 .. 3)", "step -1 7 0 0 0 0 = BAD; step 4 7 0 0 0 0 = BAD; step max 7 0 0 0 0 = BAD; "
            + "step min 7 0 0 0 0 = BAD; step 0 7 0 0 0 0 = 0; step 3 7 0 0 0 0 = 0; count 3 = 1; count 6 = 1; count 4 = 0; "
            + "count 5 = 0");
    }

    private static void sorts() {
        Script.run("48: sort (0 .. 12)", "step 0 -1 0 0 0 0 = BAD; step 0 13 0 0 0 0 = BAD; step 0 max 0 0 0 0 = BAD; "
            + "step 0 min 0 0 0 0 = BAD; step 0 0 -1 0 0 0 = 0; step 0 12 0 0 0 0 = 1; step 4 13 0 0 0 0 = BAD");
    }

    private static void things() {
        for (int sort : new int[] {0, 1, 2, 4}) {
            String no = "step 0 " + sort + " @ 0 0 0 = BAD; ";
            Script.run("48: a of " + sort + ": no THING and not NONE", HOUSE, no.replace("@", "9"), no.replace("@", "-2"),
                no.replace("@", "120"), no.replace("@", "max"), no.replace("@", "min"),
                "9 * step 0 " + sort + " # 0 0 0 = #", "step 0 " + sort + " -1 0 0 0 = 9; card = 9; step 0 " + sort
                    + " 9 0 0 0 = 10");
        }
        Script.run("48: c of 2 likewise", HOUSE, "step 0 2 5 0 9 0 = BAD; step 0 2 5 0 -2 0 = BAD; step 0 2 5 0 max 0 = BAD; "
            + "step 0 2 5 0 min 0 = BAD; step 0 2 9 0 9 0 = BAD; step 0 2 -1 0 9 0 = BAD; 9 * step 0 2 5 0 # 0 = #",
            "step 0 2 -1 0 -1 0 = 9");
        Script.run("48: c of others is nothing", HOUSE, "step 0 0 0 0 99 0 = 0; step 0 1 1 0 -99 0 = 1; step 0 3 0 0 99 0 = 2; "
            + "step 0 4 0 0 99 0 = 3; step 0 5 0 0 max 0 = 4; step 0 6 1 0 min 0 = 5");
        Script.run("48: b of 1", HOUSE, "step 0 1 1 -1 0 0 = BAD; step 0 1 1 8 0 0 = BAD; step 0 1 1 max 0 0 = BAD; "
            + "step 0 1 1 min 0 0 = BAD; step 0 1 -1 8 0 0 = BAD; 8 * step 0 1 1 # 0 0 = #", "step 0 1 -1 7 0 0 = 8");
        Script.run("48: b of others is nothing", HOUSE, "step 0 0 0 max 0 0 = 0; step 0 0 0 -1 0 0 = 1; step 0 2 5 min 5 0 = 2; "
            + "step 0 3 0 -9 0 0 = 3; step 0 4 0 99 0 0 = 4; step 0 7 0 99 0 0 = 5");
        Script.run("48: what is a THING of another SORT fails in the act", HOUSE, "8 * step 0 0 #+1 0 0 0 = #; act 0 = CAST");
    }

    private static void tanks() {
        for (int sort : new int[] {3, 5}) {
            Script.run("48: a of " + sort + ": no TANK", HOUSE, "step 0 " + sort + " -1 0 0 0 = BAD; step 0 " + sort
                + " 6 0 0 0 = BAD; step 0 " + sort + " max 0 0 0 = BAD; step 0 " + sort + " min 0 0 0 = BAD; 6 * step 0 " + sort
                + " # 0 0 0 = #");
        }
    }

    private static void failures() {
        Script.run("48: a of 6: 1 .. 6, 20 .. 29", "step 0 6 0 0 0 0 = BAD; 6 * step 0 6 #+1 0 0 0 = #; step 0 6 7 0 0 0 = BAD; "
            + "step 0 6 8 0 0 0 = BAD; step 0 6 19 0 0 0 = BAD; 10 * step 0 6 #+20 0 0 0 = #+6; step 0 6 30 0 0 0 = BAD; "
            + "step 0 6 31 0 0 0 = BAD",
            "step 0 6 -1 0 0 0 = BAD; step 0 6 max 0 0 0 = BAD; step 0 6 min 0 0 0 = BAD");
        Script.run("48: a of 8: -1, 1 .. 7, 20 .. 29", "step 0 8 -2 0 0 0 = BAD; step 0 8 -1 0 0 0 = 0; step 0 8 0 0 0 0 = BAD; "
            + "7 * step 0 8 #+1 0 0 0 = #+1; step 0 8 8 0 0 0 = BAD; step 0 8 19 0 0 0 = BAD; 10 * step 0 8 #+20 0 0 0 = #+8; "
            + "step 0 8 30 0 0 0 = BAD",
            "step 0 8 31 0 0 0 = BAD; step 0 8 max 0 0 0 = BAD; step 0 8 min 0 0 0 = BAD");
        Script.run("48: a of 11: no lesser PLAN", "step 0 11 0 0 0 0 = BAD; step 0 11 -1 0 0 0 = BAD; step 0 11 1 0 0 0 = BAD; "
            + "step 1 11 0 0 0 0 = 0; step 1 11 1 0 0 0 = BAD; step 1 11 -1 0 0 0 = BAD; step 2 11 1 0 0 0 = 0; "
            + "step 2 11 2 0 0 0 = BAD; 3 * step 3 11 # 0 0 0 = #",
            "step 3 11 3 0 0 0 = BAD; step 3 11 4 0 0 0 = BAD; step 3 11 min 0 0 0 = BAD; step 3 11 -1 0 0 0 = BAD; "
                + "step 3 11 max 0 0 0 = BAD");
    }

    private static void others() {
        Script.run("48: a of 7, 9, 10, 12 is nothing", "step 0 7 max min 99 -1 = 0; step 0 9 -99 0 0 0 = 1; "
            + "step 0 10 min 0 0 0 = 2; step 0 12 max min max 5 = 3; act 0 = 2; answer = 5");
    }

    private static void fullPlans() {
        Script.run("48: 24 at most", "23 * step 1 12 0 0 0 0 = #; step 1 12 0 0 0 0 = 23; step 1 12 0 0 0 0 = FULL; "
            + "step 1 7 0 0 0 0 = FULL; step 1 11 0 0 0 0 = FULL; count 4 = 24; step 0 12 0 0 0 0 = 0; step 2 12 0 0 0 0 = 0");
        Script.run("48: BAD ahead of FULL", "24 * step 1 12 0 0 0 0 = #; step 1 13 0 0 0 0 = BAD; step 1 0 0 0 0 0 = BAD; "
            + "step 1 1 -1 8 0 0 = BAD; step 1 2 -1 0 0 0 = BAD; step 1 3 6 0 0 0 = BAD; step 1 4 0 0 0 0 = BAD; "
            + "step 1 5 6 0 0 0 = BAD; step 1 6 0 0 0 0 = BAD; step 1 8 0 0 0 0 = BAD; step 1 11 1 0 0 0 = BAD",
            "step 1 0 -1 0 0 0 = FULL");
        Script.run("48: room again by wipe()", "24 * step 1 12 0 0 0 7 = #; step 1 12 0 0 0 0 = FULL; wipe 1 = 24; count 4 = 0; "
            + "step 1 12 0 0 0 8 = 0; act 1 = 2; answer = 8");
    }

    private static void wiped() {
        Script.run("49: PLAN (0 .. 3)", "wipe -1 = BAD; wipe 4 = BAD; wipe max = BAD; wipe min = BAD; wipe 0 = 0; wipe 3 = 0");
        Script.run("49: how many it had", "step 3 12 0 0 0 0 = 0; wipe 3 = 1; wipe 3 = 0; step 3 12 0 0 0 0 = 0; "
            + "step 3 12 0 0 0 0 = 1; step 2 12 0 0 0 0 = 0; wipe 3 = 2; count 6 = 0; count 5 = 1; act 3 = 1");
        Script.run("49: a PLAN that is RUN", HOUSE, plan(0, "PUT 0 0 5"), plan(1, "RUN 0"),
            "wipe 0 = 1; act 1 = 1; get 0 0 = 0; acted 0 = 1");
    }

    private static void acts() {
        Script.run("50: BAD: PLAN", "act -1 = BAD; act 4 = BAD; act max = BAD; act min = BAD; 6 * acted # = 0");
        Script.run("50: no STEPS", "4 * act # = 1; 6 * acted # = 0; trace 0 = 0");
    }

    private static void blocksThatAreNotAsTold() {
        String[] wrong = {"END", "LAST", "CATCH -1", "BEGIN", "BEGIN, LAST", "BEGIN, CATCH -1", "BEGIN, END, END",
            "BEGIN, END, LAST", "BEGIN, END, CATCH 1", "BEGIN, BEGIN, END", "BEGIN, LAST, CATCH 1, END",
            "BEGIN, LAST, LAST, END", "BEGIN, CATCH 1, LAST, CATCH 1, END", "BEGIN, LAST, BEGIN, END, LAST, END",
                "BEGIN, LAST, BEGIN, LAST, END, CATCH 1, END", "PUT 0 0 1, END", "BEGIN, PUT 0 0 1", "BEGIN, LAST, BEGIN, END",
                "END, BEGIN",
            "ANSWER 1, END", "ANSWER 1, BEGIN", "BEGIN, BEGIN, LAST, LAST, END, END", "BEGIN, CATCH 1, BEGIN, END",
                "FAIL 1, LAST", "BEGIN, BEGIN, END, END, LAST"};
        for (String steps : wrong) {
            act("50: LACK: BLOCKS that are not as told: " + steps, "PUT 0 0 1, " + steps,
                "act 0 = LACK; get 0 0 = 0; 6 * acted # = 0");
        }
    }

    private static void blocksThatAre() {
        String[] right = {"BEGIN, END", "BEGIN, CATCH -1, END", "BEGIN, LAST, END",
            "BEGIN, CATCH 1, CATCH 1, CATCH -1, LAST, END", "BEGIN, END, BEGIN, END",
            "BEGIN, LAST, END, BEGIN, CATCH 1, LAST, END", "BEGIN, BEGIN, LAST, END, LAST, END",
            "BEGIN, LAST, BEGIN, CATCH 1, LAST, END, END", "BEGIN, BEGIN, LAST, END, CATCH 1, LAST, END",
                "BEGIN, CATCH 1, BEGIN, LAST, END, CATCH 2, LAST, END", "BEGIN, LAST, BEGIN, LAST, END, BEGIN, LAST, END, END"};
        for (String steps : right) act("50: BLOCKS as told: " + steps, "PUT 0 0 1, " + steps, "act 0 = 1; get 0 0 = 1");
        act("50: the most CATCHES", "BEGIN, FAIL 29, " + times(20, "CATCH 28") + ", CATCH 29, END",
            "act 0 = 1; acted 3 = 1; acted 0 = 2; trace 0 = 559; trace 1 = 0");
        act("50: twelve BLOCKS in one another", times(12, "BEGIN") + ", " + times(12, "END"), "act 0 = 1; acted 0 = 12");
        act("50: twelve BLOCKS behind one another", times(12, "BEGIN, END"), "act 0 = 1; acted 0 = 12");
    }

    private static void blocksOfOthers() {
        Script.run("50: LACK: BLOCKS of one that it RUNS", HOUSE, plan(0, "BEGIN"), plan(1, "PUT 0 0 1, RUN 0"), plan(2,
            "ANSWER 1, RUN 1"), plan(3, "PUT 0 0 2"), "act 0 = LACK; act 1 = LACK; act 2 = LACK; get 0 0 = 0; act 3 = 1; "
            + "acted 0 = 1; get 0 0 = 2",
            "wipe 0 = 1; act 2 = 2; act 1 = 1; get 0 0 = 1");
        Script.run("50: those that it does not RUN are of no matter", HOUSE, plan(0, "END"), plan(1, "LAST"), plan(2,
            "PUT 0 0 1"), plan(3, "RUN 2"), "act 3 = 1; act 1 = LACK; act 0 = LACK");
        Script.run("50: BLOCKS do not go on into other PLANS", HOUSE, plan(0, "BEGIN"), plan(1, "RUN 0, END"), "act 1 = LACK");
        Script.run("50: LACK, whatever was acted ahead of it", HOUSE, plan(0, "HOLD 1, FAIL 21"), plan(1, "END"),
            "act 0 = F21; act 1 = LACK; acted 1 = 21; acted 0 = 2; act 4 = BAD; acted 1 = 21; trace 0 = 511");
    }

    private static void puts() {
        String[][] due = {{"PUT -1 0 5", "NULL"}, {"PUT -1 9 5", "NULL"}, {"PUT 1 0 5", "CAST"}, {"PUT 7 0 5", "CAST"},
            {"PUT 5 9 5", "CAST"}, {"PUT 2 0 5", "CAST"}, {"PUT 0 3 5", "INDEX"}, {"PUT 0 -1 5", "INDEX"}, {"PUT 0 max 5",
            "INDEX"}, {"PUT 0 min 5", "INDEX"}, {"PUT 8 1 5", "INDEX"}};
        refusals("0 PUT", due);
        act("50: PUT by BITS", "PUT 0 0 4294967297, PUT 0 2 -1, PUT 8 0 4294967297",
            "act 0 = 1; get 0 0 = 1; get 0 1 = 0; get 0 2 = -1; get 8 0 = 4294967297");
        Script.run("50: PUT of each LANE", "8 * row # 1 = #; 8 * step 0 0 # 0 0 -1 = #; act 0 = 1; get 0 0 = 1; get 1 0 = -1; "
            + "get 2 0 = -1; get 3 0 = 65535; get 4 0 = -1; get 5 0 = -1; get 6 0 = 0x7fc00000; get 7 0 = NaN");
    }

    /** STEPS that fail, each by itself: all that was done ahead of one is undone, or, if it is taken, it has done nothing. */
    private static void refusals(String name, String[][] due) {
        for (String[] pair : due) {
            act("50: " + name + ": " + pair[0], "PUT 8 0 77, " + pair[0], "act 0 = " + pair[1]
                + "; get 8 0 = 0; acted 0 = 2; acted 2 = 0; acted 3 = 0; acted 4 = 0; acted 5 = 1; trace 0 = 0");
            act("50: " + name + ", taken: " + pair[0], "PUT 8 0 77, BEGIN, " + pair[0] + ", PUT 8 0 78, CATCH -1, END",
                "act 0 = 1; get 8 0 = 77; acted 0 = 3; acted 1 = 0; acted 3 = 1; acted 5 = 0");
            act("50: " + name + ", and nothing else: " + pair[0], "BEGIN, " + pair[0] + ", CATCH -1, END", "still act 0 = 1");
        }
    }

    private static void raises() {
        String[][] due = {{"RAISE -1 0 5", "NULL"}, {"RAISE -1 4 5", "NULL"}, {"RAISE 0 4 5", "CAST"}, {"RAISE 0 0 5", "CAST"},
            {"RAISE 2 1 5", "CAST"}, {"RAISE 7 1 5", "CAST"}, {"RAISE 1 0 5", "CAST"}, {"RAISE 1 0 0", "CAST"}};
        refusals("1 RAISE", due);
        act("50: RAISE wraps", "RAISE 1 1 127, RAISE 1 1 1, RAISE 1 2 32768, RAISE 1 3 -1, RAISE 1 4 2147483648, "
            + "RAISE 1 5 0x7fffffffffffffff, RAISE 1 5 1, RAISE 1 6 16777217, RAISE 1 7 9007199254740993",
            "act 0 = 1; field 1 0 = 0; field 1 1 = -128; field 1 2 = -32768; field 1 3 = 65535; field 1 4 = min; "
                + "field 1 5 = 0x8000000000000000; field 1 6 = 16777216.0f; field 1 7 = 9007199254740992.0d");
    }

    private static void goes() {
        String[][] due = {{"GO -1 0 4 0", "NULL"}, {"GO -1 9 -1 9", "NULL"}, {"GO 0 0 4 0", "CAST"}, {"GO 7 9 -1 0", "CAST"},
            {"GO 2 0 4 0", "CAST"}, {"GO 5 2 4 0", "INDEX"}, {"GO 5 -1 -1 0", "INDEX"}, {"GO 5 max 0 0", "INDEX"},
            {"GO 5 min 4 0", "INDEX"},
            {"GO 4 0 5 0", "NULL"}, {"GO 4 1 0 9", "NULL"}, {"GO 4 0 -1 0", "NULL"}, {"GO 5 0 -1 0", "NULL"}, {"GO 5 0 -1 99",
                "NULL"}, {"GO 5 0 0 0", "CAST"}, {"GO 5 0 1 99", "CAST"}, {"GO 5 0 4 2", "INDEX"}, {"GO 5 0 4 -1", "INDEX"},
            {"GO 5 0 4 8", "INDEX"}, {"GO 5 0 4 4294967296", "INDEX"}, {"GO 5 0 4 4294967297", "INDEX"}, {"GO 5 0 4 -4294967296",
                "INDEX"}, {"GO 5 0 4 0x7fffffffffffffff", "INDEX"}, {"GO 5 0 4 0x8000000000000000", "INDEX"},
            {"GO 5 1 4 4294967296", "INDEX"}, {"GO 5 1 4 2", "INDEX"}, {"GO 5 1 4 0", "STORE"}, {"GO 5 1 4 1", "STORE"}};
        refusals("2 GO", due);
        act("50: a GO that fails leaves both MESHES", "BEGIN, GO 5 1 4 0, CATCH -1, END, BEGIN, GO 5 0 4 9, CATCH -1, END",
            "act 0 = 1; mesh 5 1 = 3; mesh 5 0 = 2; mesh 4 0 = NONE; acted 3 = 2; trace 0 = 532; trace 1 = 535");
    }

    private static void goesWhere() {
        act("50: in that one alone then", "GO 5 0 4 1", "act 0 = 1; mesh 5 0 = NONE; mesh 4 1 = 2; mesh 4 0 = NONE; "
            + "mesh 5 1 = 3; act 0 = NULL; mesh 4 1 = 2");
        act("50: of these two MESHES: others are of no matter", "GO 5 0 4 1",
            "putIn 4 0 2 = 1; act 0 = 1; mesh 4 0 = 2; mesh 4 1 = 2; mesh 5 0 = NONE");
        act("50: what was in the other is gone from it", "GO 5 0 5 1", "act 0 = 1; mesh 5 0 = NONE; mesh 5 1 = 2");
        act("50: the same MESH", "GO 5 1 5 1", "act 0 = 1; mesh 5 1 = 3; mesh 5 0 = 2");
        act("50: another MESH of the same NET", "GO 5 0 4 0, GO 4 0 4 1", "act 0 = 1; mesh 4 0 = NONE; mesh 4 1 = 2; "
            + "mesh 5 0 = NONE");
        Script.run("50: to the last of 8", "fish 4 1 -1 -1 = 0; net 4 8 = 1; net 7 8 = 2; putIn 1 7 0 = 1; step 0 2 1 7 2 7 = 0; "
            + "act 0 = 1; mesh 2 7 = 0; mesh 1 7 = NONE; wipe 0 = 1; step 0 2 2 7 1 8 = 0; act 0 = INDEX; mesh 2 7 = 0");
        Script.run("50: NETS without MESHES", "fish 4 1 -1 -1 = 0; net 0 0 = 1; net 0 1 = 2; putIn 2 0 0 = 1; "
            + "step 0 2 1 0 2 0 = 0; act 0 = INDEX; wipe 0 = 1; step 0 2 2 0 1 0 = 0; act 0 = INDEX; mesh 2 0 = 0");
    }

    private static void eggs() {
        String[][] due = {{"EGGS 1 0 0 5", "NULL"}, {"EGGS 5 9 9 5", "NULL"}, {"EGGS 0 2 0 5", "INDEX"}, {"EGGS 0 -1 9 5",
            "INDEX"}, {"EGGS 0 max 0 5", "INDEX"}, {"EGGS 0 min 0 5", "INDEX"}, {"EGGS 0 1 0 5", "NULL"}, {"EGGS 0 1 9 5",
            "NULL"}, {"EGGS 0 0 2 5", "INDEX"},
            {"EGGS 0 0 -1 5", "INDEX"}, {"EGGS 0 0 max 5", "INDEX"}, {"EGGS 0 0 min 5", "INDEX"}};
        refusals("3 EGGS", due);
        act("50: EGGS are RAISED, beyond an int, below 0", "EGGS 0 0 0 -5, EGGS 0 0 1 2147483647",
            "act 0 = 1; get 6 0 = -5; get 6 1 = max; act 0 = 1; get 6 0 = -10; get 6 1 = -2; put 6 1 max = 1; wipe 0 = 2; "
            + "step 0 3 0 0 1 4294967297 = 0; act 0 = 1; get 6 1 = min");
    }

    private static void takes() {
        String[][] due = {{"TAKE -1", "NULL"}};
        refusals("4 TAKE", due);
        act("50: STATE: it is TAKEN already", "TAKE 3, TAKE 3", "act 0 = STATE; trace 0 = 303; trace 1 = 103; trace 2 = 0; "
            + "told 3 5 = 0");
        act("50: of each SORT, the first and the last THING", "TAKE 0, TAKE 1, TAKE 2, TAKE 4, TAKE 7, TAKE 8",
            "act 0 = 1; trace 0 = 300; trace 5 = 308; trace 6 = 108; trace 11 = 100; trace 12 = 0; 9 * told # 5 = 0");
        act("50: again in a later act", "TAKE 3", "act 0 = 1; act 0 = 1; trace 0 = 303; trace 3 = 103");
        act("50: STATE is taken by CATCH 7, and others by it", "BEGIN, TAKE 3, TAKE 3, CATCH 6, CATCH 7, TAKE 2, END",
            "act 0 = 1; trace 0 = 303; trace 1 = 302; trace 2 = 102; trace 3 = 537; trace 4 = 103");
        Script.run("50: the 120th THING", "120 * card = #; step 0 4 119 0 0 0 = 0; step 0 4 0 0 0 0 = 1; act 0 = 1; "
            + "trace 0 = 419; trace 1 = 300; trace 2 = 100; trace 3 = 219; trace 4 = 0");
    }

    private static void holds() {
        act("50: HOLD once more", "HOLD 5, HOLD 5, HOLD 0", "act 0 = 1; trace 0 = 515; trace 1 = 515; trace 2 = 510; "
            + "trace 3 = 500; trace 4 = 505; trace 5 = 505; trace 6 = 0; tank 5 8 = 0");
        act("50: the most HOLDS of a PLAN", times(24, "HOLD 3"), "act 0 = 1; tank 3 8 = 0; trace 23 = 513; trace 24 = 503; "
            + "trace 47 = 503; trace 48 = 0");
    }

    private static void fails() {
        for (int failure : new int[] {1, 2, 3, 4, 5, 6, 20, 21, 28, 29}) {
            act("50: FAIL " + failure, "FAIL " + failure + ", PUT 0 0 1", "act 0 = " + (-10 - failure) + "; failed = " + failure
                + "; acted 0 = 1; acted 1 = " + failure + "; acted 5 = 1; get 0 0 = 0");
        }
    }

    private static void catches() {
        for (int failure : new int[] {1, 2, 3, 4, 5, 6, 20, 25, 29}) {
            act("50: CATCH takes " + failure, "BEGIN, FAIL " + failure + ", CATCH 7, PUT 0 0 7, CATCH " + failure
                + ", PUT 0 0 8, CATCH -1, PUT 0 0 9, END", "act 0 = 1; get 0 0 = 8; acted 3 = 1; trace 0 = " + (530 + failure));
            act("50: CATCH -1 takes " + failure, "BEGIN, FAIL " + failure + ", CATCH 7, PUT 0 0 7, CATCH -1, PUT 0 0 8, CATCH "
                + failure + ", PUT 0 0 9, END", "act 0 = 1; get 0 0 = 8; acted 3 = 1; trace 0 = " + (530 + failure));
        }
        act("50: none that takes it", "BEGIN, FAIL 20, CATCH 21, PUT 0 0 1, CATCH 1, PUT 0 0 2, END",
            "act 0 = F20; acted 3 = 0; trace 0 = 0");
        act("50: no CATCHES", "BEGIN, FAIL 20, END, PUT 0 0 1", "act 0 = F20; acted 0 = 2");
        act("50: of an outer BLOCK", "BEGIN, BEGIN, FAIL 20, CATCH 21, END, PUT 0 0 1, CATCH 20, PUT 0 1 1, END",
            "act 0 = 1; get 0 0 = 0; get 0 1 = 1; trace 0 = 550");
        act("50: of an inner BLOCK that has ended", "BEGIN, BEGIN, CATCH -1, END, FAIL 20, END", "act 0 = F20; acted 3 = 0");
        act("50: of a BLOCK behind", "FAIL 20, BEGIN, CATCH -1, END", "act 0 = F20; acted 0 = 1");
    }

    private static void catchesAndSteps() {
        act("50: its STEPS are done in their stead", "BEGIN, PUT 0 0 1, FAIL 20, PUT 0 1 1, CATCH 20, PUT 0 2 1, END, PUT 8 0 1",
            "act 0 = 1; get 0 0 = 1; get 0 1 = 0; get 0 2 = 1; get 8 0 = 1; acted 0 = 5");
        act("50: nothing to take", "BEGIN, PUT 0 0 1, CATCH -1, PUT 0 1 1, END",
            "act 0 = 1; get 0 0 = 1; get 0 1 = 0; acted 3 = 0; acted 0 = 2");
        act("50: a FAILURE in a CATCH goes on, past those behind it", "BEGIN, FAIL 20, CATCH 20, FAIL 21, CATCH 21, PUT 0 0 1, "
            + "CATCH -1, PUT 0 0 2, END", "act 0 = F21; acted 3 = 1; get 0 0 = 0; acted 2 = 0");
        act("50: a FAILURE in a CATCH, taken by an outer one", "BEGIN, BEGIN, FAIL 20, CATCH 20, FAIL 21, END, CATCH 21, "
            + "PUT 0 0 1, END", "act 0 = 1; acted 3 = 2; get 0 0 = 1; acted 5 = 0; trace 0 = 551; trace 1 = 550");
        act("50: an empty CATCH", "BEGIN, FAIL 20, CATCH 20, END", "act 0 = 1; acted 0 = 2; acted 3 = 1; acted 1 = 0");
        act("50: BLOCKS in a CATCH", "BEGIN, FAIL 20, CATCH 20, BEGIN, FAIL 20, CATCH 20, PUT 0 0 1, END, END",
            "act 0 = 1; acted 3 = 2; get 0 0 = 1");
    }

    private static void lasts() {
        act("50: LAST at the end of a BLOCK", "BEGIN, PUT 0 0 1, LAST, PUT 0 1 1, END, PUT 0 2 1",
            "act 0 = 1; get 0 0 = 1; get 0 1 = 1; get 0 2 = 1; acted 4 = 1; trace 0 = 520; trace 1 = 0; acted 0 = 4");
        act("50: LAST by a FAILURE that goes on", "BEGIN, BEGIN, FAIL 20, LAST, PUT 0 1 1, END, PUT 0 2 1, CATCH 20, END",
            "act 0 = 1; get 0 1 = 1; get 0 2 = 0; acted 4 = 1; trace 0 = 550; trace 1 = 520; acted 5 = 0");
        act("50: LAST by ANSWER", "BEGIN, ANSWER 5, LAST, PUT 0 1 1, END, PUT 0 2 1",
            "act 0 = 2; answer = 5; get 0 1 = 1; get 0 2 = 0; acted 4 = 1");
        act("50: LAST behind its CATCH", "BEGIN, FAIL 20, CATCH 20, PUT 0 0 1, LAST, PUT 0 0 2, END",
            "act 0 = 1; get 0 0 = 2; trace 0 = 520; trace 1 = 550");
        act("50: LAST behind a CATCH that FAILS", "BEGIN, BEGIN, FAIL 20, CATCH 20, FAIL 21, LAST, PUT 0 0 2, END, CATCH 21, "
            + "END", "act 0 = 1; get 0 0 = 2; trace 0 = 551; trace 1 = 520; trace 2 = 550");
        act("50: LAST behind a CATCH that ANSWERS", "BEGIN, FAIL 20, CATCH 20, ANSWER 6, LAST, PUT 0 0 2, END, PUT 0 1 1",
            "act 0 = 2; answer = 6; get 0 0 = 2; get 0 1 = 0; acted 5 = 0");
        act("50: an empty LAST", "BEGIN, FAIL 20, LAST, END", "act 0 = F20; acted 4 = 1; trace 0 = 520; acted 2 = 0");
        act("50: LASTS from the inner one on", "BEGIN, BEGIN, ANSWER 5, LAST, PUT 0 0 1, END, LAST, PUT 0 0 2, END",
            "act 0 = 2; get 0 0 = 2; acted 4 = 2; trace 0 = 520; trace 1 = 520; trace 2 = 0");
        act("50: LASTS in a LAST", "BEGIN, LAST, BEGIN, PUT 0 0 1, LAST, PUT 0 0 2, END, PUT 0 1 3, END",
            "act 0 = 1; get 0 0 = 2; get 0 1 = 3; acted 4 = 2");
        act("50: a LAST of a BLOCK that was not begun", "ANSWER 1, BEGIN, LAST, PUT 0 0 1, END",
            "act 0 = 2; acted 4 = 0; get 0 0 = 0");
        act("50: a FAILURE that a LAST takes itself", "BEGIN, ANSWER 7, LAST, BEGIN, FAIL 20, CATCH 20, PUT 0 0 1, END, "
            + "PUT 0 1 1, END", "act 0 = 2; answer = 7; get 0 0 = 1; get 0 1 = 1; acted 5 = 0; acted 3 = 1");
    }

    private static void lastsThatFail() {
        act("50: LAST FAILS: that is what goes on", "BEGIN, LAST, FAIL 21, PUT 0 0 1, END",
            "act 0 = F21; acted 2 = 0; acted 4 = 1");
        act("50: LAST FAILS in place of an end", "BEGIN, BEGIN, LAST, FAIL 21, END, PUT 0 0 1, CATCH 21, PUT 0 1 1, END",
            "act 0 = 1; get 0 0 = 0; get 0 1 = 1; acted 5 = 0");
        act("50: LAST FAILS in place of a FAILURE", "BEGIN, BEGIN, PUT 8 0 5, FAIL 20, LAST, FAIL 21, END, CATCH 20, PUT 0 0 1, "
            + "CATCH 21, PUT 0 1 1, END", "act 0 = 1; acted 5 = 1; acted 3 = 1; trace 0 = 551; get 8 0 = 0; get 0 1 = 0; "
            + "get 0 0 = 0; failed = 0");
        act("50: LAST FAILS in place of ANSWER", "BEGIN, BEGIN, ANSWER 3, LAST, FAIL 21, END, CATCH 21, PUT 0 1 1, END, "
            + "PUT 0 2 1", "act 0 = 1; answer = 0; get 0 1 = 1; get 0 2 = 1; acted 5 = 0");
        act("50: its own CATCHES are not for a LAST", "BEGIN, CATCH -1, PUT 0 0 1, LAST, FAIL 21, END",
            "act 0 = F21; acted 3 = 0; get 0 0 = 0");
        act("50: nor for what its CATCH took", "BEGIN, FAIL 20, CATCH -1, LAST, FAIL 21, END",
            "act 0 = F21; acted 3 = 1; acted 2 = 0; trace 0 = 520; trace 1 = 550");
        act("50: what is behind it in the LAST is not done", "BEGIN, LAST, FAIL 21, BEGIN, LAST, END, END",
            "act 0 = F21; acted 4 = 1; acted 0 = 2");
    }

    private static void lastsThatAnswer() {
        act("50: LAST ANSWERS in place of an end", "BEGIN, LAST, ANSWER 9, PUT 0 0 1, END, PUT 0 1 1",
            "act 0 = 2; answer = 9; get 0 0 = 0; get 0 1 = 0; acted 5 = 0");
        act("50: LAST ANSWERS in place of ANSWER", "BEGIN, ANSWER 8, LAST, ANSWER 9, END",
            "act 0 = 2; answer = 9; acted 5 = 0; acted 0 = 3");
        act("50: LAST ANSWERS in place of a FAILURE", "PUT 8 0 1, BEGIN, FAIL 20, LAST, PUT 0 0 1, ANSWER 9, END",
            "act 0 = 2; failed = 0; answer = 9; acted 5 = 1; acted 1 = 0; acted 2 = 0; get 8 0 = 0; get 0 0 = 0");
        act("50: LAST ANSWERS in place of a CATCH's FAILURE", "BEGIN, FAIL 20, CATCH 20, FAIL 21, LAST, ANSWER 9, END",
            "act 0 = 2; answer = 9; acted 5 = 1; acted 1 = 0");
        act("50: LAST ANSWERS behind a CATCH that took it", "PUT 8 0 1, BEGIN, FAIL 20, CATCH 20, LAST, ANSWER 9, END",
            "act 0 = 2; answer = 9; acted 5 = 0; get 8 0 = 1");
        act("50: outer LASTS are done then", "BEGIN, BEGIN, LAST, ANSWER 9, END, LAST, PUT 0 0 1, END",
            "act 0 = 2; answer = 9; get 0 0 = 1; acted 4 = 2");
    }

    private static void causes() {
        act("52: THE CAUSE is the one that it took the place of", "BEGIN, FAIL 20, LAST, FAIL 21, END",
            "act 0 = F21; acted 1 = 21; acted 2 = 20");
        act("52: of a FAILURE like it", "BEGIN, FAIL 20, LAST, FAIL 20, END", "act 0 = F20; acted 2 = 20");
        act("52: a FAILURE in the STEPS of a CATCH has none", "BEGIN, FAIL 20, CATCH 20, FAIL 21, END",
            "act 0 = F21; acted 2 = 0");
        act("52: nor one that a LAST has in place of an end, of ANSWER", "BEGIN, ANSWER 1, LAST, FAIL 21, END",
            "act 0 = F21; acted 2 = 0");
        act("52: that of a CATCH is THE CAUSE of a LAST's", "BEGIN, FAIL 20, CATCH 20, FAIL 21, LAST, FAIL 22, END",
            "act 0 = F22; acted 2 = 21");
        act("52: it goes on with it through other LASTS", "BEGIN, BEGIN, FAIL 20, LAST, FAIL 21, END, LAST, PUT 0 0 1, END",
            "act 0 = F21; acted 2 = 20; acted 4 = 2");
        act("52: it goes on with it through LASTS that take FAILURES", "BEGIN, BEGIN, FAIL 20, LAST, FAIL 21, END, LAST, BEGIN, "
            + "FAIL 22, CATCH 22, END, END", "act 0 = F21; acted 2 = 20");
        act("52: that of the latest place", "BEGIN, BEGIN, FAIL 20, LAST, FAIL 21, END, LAST, FAIL 22, END",
            "act 0 = F22; acted 2 = 21");
        act("52: none once it is taken", "BEGIN, BEGIN, FAIL 20, LAST, FAIL 21, END, CATCH 21, FAIL 22, END",
            "act 0 = F22; acted 2 = 0; acted 5 = 1");
        act("52: none where the act goes to its end", "BEGIN, BEGIN, FAIL 20, LAST, FAIL 21, END, CATCH 21, END",
            "act 0 = 1; acted 1 = 0; acted 2 = 0; acted 5 = 1");
        Script.run("52: through PLANS", HOUSE, plan(0, "BEGIN, FAIL 20, LAST, FAIL 21, END"), plan(1, "RUN 0"), plan(2,
            "BEGIN, FAIL 23, LAST, RUN 1, END"), "act 1 = F21; acted 2 = 20; act 2 = F21; acted 1 = 21; acted 2 = 23");
    }

    private static void causesOfSpent() {
        Script.run("52: SPENT has none", HOUSE, plan(0, times(6, "BEGIN, FAIL 20, CATCH 20, END")), plan(1,
            "RUN 0, RUN 0, BEGIN, FAIL 21, LAST, END"), "act 1 = SPENT; acted 2 = 0; acted 4 = 0; acted 3 = 12");
        Script.run("52: SPENT in a CATCH has none", HOUSE, plan(0, times(6, "BEGIN, FAIL 20, CATCH 20, END")), plan(1,
            "BEGIN, FAIL 21, CATCH 21, RUN 0, RUN 0, END"), "act 1 = SPENT; acted 2 = 0; acted 3 = 12");
        Script.run("52: SPENT in a LAST has", HOUSE, plan(0, times(6, "BEGIN, FAIL 20, CATCH 20, END")), plan(1,
            "BEGIN, FAIL 21, LAST, RUN 0, RUN 0, END"), "act 1 = SPENT; acted 2 = 21; acted 3 = 11; acted 4 = 1");
        Script.run("52: SPENT in a LAST without a FAILURE has none", HOUSE, plan(0, times(6, "BEGIN, FAIL 20, CATCH 20, END")),
            plan(1, "BEGIN, LAST, RUN 0, RUN 0, FAIL 21, END"), "act 1 = SPENT; acted 2 = 0; acted 3 = 12; acted 4 = 1");
        Script.run("52: SPENT by STEPS in a LAST has", HOUSE, plan(0, times(24, "HOLD 0")), plan(1, times(13, "RUN 0")), plan(2,
            "BEGIN, FAIL 21, LAST, RUN 1, END"), "act 2 = SPENT; acted 0 = 300; acted 2 = 21; acted 4 = 1");
    }

    private static void letGo() {
        act("50: HELD in a BLOCK: let go at its end", "BEGIN, HOLD 1, HOLD 2, END, HOLD 3",
            "act 0 = 1; trace 5 = 501; trace 4 = 502; trace 3 = 512; trace 2 = 511; trace 1 = 503; trace 0 = 513; trace 6 = 0");
        act("50: ahead of LAST", "BEGIN, HOLD 1, LAST, HOLD 2, END", "act 0 = 1; trace 4 = 501; trace 3 = 511; trace 2 = 520; "
            + "trace 1 = 502; trace 0 = 512");
        act("50: ahead of CATCH", "BEGIN, HOLD 1, FAIL 20, CATCH 20, HOLD 2, LAST, END",
            "act 0 = 1; trace 5 = 501; trace 4 = 511; trace 3 = 550; trace 2 = 502; trace 1 = 512; trace 0 = 520");
        act("50: by a FAILURE that goes on", "HOLD 0, BEGIN, HOLD 1, FAIL 20, LAST, HOLD 2, FAIL 21, END",
            "act 0 = F21; trace 6 = 500; trace 5 = 501; trace 4 = 511; trace 3 = 520; trace 2 = 502; trace 1 = 512; "
            + "trace 0 = 510; 6 * tank # 8 = 0");
        act("50: by ANSWER", "HOLD 0, BEGIN, HOLD 1, BEGIN, HOLD 2, ANSWER 1, END, END",
            "act 0 = 2; trace 5 = 500; trace 4 = 501; trace 3 = 502; trace 2 = 512; trace 1 = 511; trace 0 = 510");
        act("50: the innermost", "HOLD 4, BEGIN, HOLD 4, END, HOLD 4", "act 0 = 1; trace 5 = 504; trace 4 = 504; trace 3 = 514; "
            + "trace 2 = 504; trace 1 = 514; trace 0 = 514");
        Script.run("50: HELD in a PLAN that is RUN", HOUSE, plan(0, "HOLD 1, HOLD 2"), plan(1, "HOLD 0, RUN 0, HOLD 3"),
            "act 1 = 1; trace 7 = 500; trace 6 = 501; trace 5 = 502; trace 4 = 512; trace 3 = 511; trace 2 = 503; trace 1 = 513; "
            + "trace 0 = 510");
    }

    private static void putBack() {
        act("50: TAKEN in a PLAN: put back at its end, behind its TANKS", "TAKE 0, HOLD 1, TAKE 2, HOLD 3",
            "act 0 = 1; trace 7 = 100; trace 6 = 501; trace 5 = 102; trace 4 = 503; trace 3 = 513; trace 2 = 511; trace 1 = 302; "
            + "trace 0 = 300");
        act("50: not at the end of a BLOCK", "BEGIN, TAKE 0, HOLD 1, END, BEGIN, TAKE 0, CATCH 7, END",
            "act 0 = 1; trace 4 = 100; trace 3 = 501; trace 2 = 511; trace 1 = 537; trace 0 = 300; trace 5 = 0");
        act("50: by a FAILURE", "TAKE 0, BEGIN, TAKE 1, FAIL 20, LAST, TAKE 2, END",
            "act 0 = F20; trace 6 = 100; trace 5 = 101; trace 4 = 520; trace 3 = 102; trace 2 = 302; trace 1 = 301; "
            + "trace 0 = 300; 9 * told # 5 = 0");
        act("50: by ANSWER", "TAKE 0, ANSWER 4, TAKE 1", "act 0 = 2; trace 1 = 100; trace 0 = 300; trace 2 = 0; told 0 5 = 0");
        Script.run("50: of the PLAN that took it", HOUSE, plan(0, "TAKE 0, TAKE 1"), plan(1, "TAKE 2, RUN 0, TAKE 1, RUN 0"),
            "act 1 = STATE; trace 9 = 102; trace 8 = 100; trace 7 = 101; trace 6 = 301; trace 5 = 300; trace 4 = 101; "
            + "trace 3 = 100; trace 2 = 300; trace 1 = 301; trace 0 = 302; trace 10 = 0");
        Script.run("50: RUN again it is taken again", HOUSE, plan(0, "TAKE 0"), plan(1, "RUN 0, RUN 0"),
            "act 1 = 1; trace 0 = 300; trace 1 = 100; trace 2 = 300; trace 3 = 100; trace 4 = 0");
        Script.run("50: by a FAILURE out of a PLAN that is RUN", HOUSE, plan(0, "TAKE 0, HOLD 1, FAIL 20"), plan(1,
            "BEGIN, RUN 0, CATCH 20, TAKE 0, END"), "act 1 = 1; trace 6 = 100; trace 5 = 501; trace 4 = 511; trace 3 = 300; "
            + "trace 2 = 550; trace 1 = 100; trace 0 = 300");
    }

    private static void runs() {
        Script.run("50: its ANSWER is of no matter", HOUSE, plan(0, "PUT 0 0 1, ANSWER 9, PUT 0 1 1"), plan(1,
            "RUN 0, PUT 0 2 1"), "act 1 = 1; answer = 0; get 0 0 = 1; get 0 1 = 0; get 0 2 = 1; acted 0 = 4");
        Script.run("50: its ANSWER does not stand for one", HOUSE, plan(0, "ANSWER 9"), plan(1, "RUN 0, ANSWER 8"), plan(2,
            "ANSWER 7, RUN 0"), "act 1 = 2; answer = 8; act 2 = 2; answer = 7; act 0 = 2; answer = 9");
        Script.run("50: its ANSWER in a LAST", HOUSE, plan(0, "ANSWER 9"), plan(1, "BEGIN, ANSWER 8, LAST, RUN 0, END"), plan(2,
            "PUT 8 0 1, BEGIN, FAIL 20, LAST, RUN 0, END"), "act 1 = 2; answer = 8; acted 5 = 0; act 2 = F20; acted 2 = 0; "
            + "answer = 8");
        Script.run("50: four PLANS in one another", HOUSE, plan(0, "PUT 0 0 1"), plan(1, "RUN 0, PUT 0 1 2"), plan(2,
            "RUN 1, PUT 0 2 3"), plan(3, "RUN 2, PUT 8 0 4"), "act 3 = 1; acted 0 = 7; get 0 0 = 1; get 0 1 = 2; get 0 2 = 3; "
            + "get 8 0 = 4");
        Script.run("50: an empty PLAN", HOUSE, plan(1, "RUN 0, PUT 0 0 1"), "act 1 = 1; acted 0 = 2; get 0 0 = 1");
        Script.run("50: FAILURES that LASTS took the place of in it", HOUSE, plan(0, "BEGIN, FAIL 20, LAST, ANSWER 9, END"),
            plan(1, "PUT 0 0 1, RUN 0, PUT 0 1 1"), "act 1 = 1; failed = 0; acted 5 = 1; acted 1 = 0; get 0 0 = 0; get 0 1 = 0; "
            + "answer = 0");
    }

    private static void counted() {
        act("50: STEPS of 0 to 7, 12 are counted, 8 to 10 are not", "PUT 0 0 1, RAISE 1 1 1, GO 5 0 5 0, EGGS 0 0 0 1, TAKE 0, "
            + "HOLD 0, BEGIN, FAIL 20, CATCH 21, CATCH 20, LAST, END, ANSWER 1", "act 0 = 2; acted 0 = 9");
        Script.run("50: 11 is counted", HOUSE, plan(1, "RUN 0, RUN 0"), "act 1 = 1; acted 0 = 2");
        act("50: as they begin: one that FAILS, too", "FAIL 20, PUT 0 0 1", "act 0 = F20; acted 0 = 1");
        act("50: those of a CATCH, of a LAST", "BEGIN, FAIL 20, PUT 0 0 1, CATCH 21, PUT 0 0 1, CATCH -1, PUT 0 0 1, LAST, "
            + "PUT 0 0 1, END", "act 0 = 1; acted 0 = 4");
    }

    /** PLAN 1 RUNS PLAN 0, of 24 HOLDS, 12 times: with PLAN 2's RUN 301 STEPS, or one less where PLAN 0's last is left out once. */
    private static void spentBySteps() {
        String many = plan(0, times(23, "RAISE 1 5 1"));
        Script.run("50: 300 STEPS", HOUSE, many, plan(1, times(12, "RUN 0")), plan(2, times(11, "RAISE 1 5 1") + ", RUN 1"),
            "act 2 = 1; acted 0 = 300; acted 1 = 0; acted 5 = 0; field 1 5 = 287");
        Script.run("50: a 301st would be", HOUSE, many, plan(1, times(12, "RUN 0")), plan(2, times(11, "RAISE 1 5 1")
            + ", RUN 1, RAISE 1 5 1"), "act 2 = SPENT; acted 0 = 300; acted 1 = 30; acted 2 = 0; acted 5 = 1; field 1 5 = 0");
        Script.run("50: 300 STEPS, then marks alone", HOUSE, many, plan(1, times(12, "RUN 0")), plan(2, times(10, "RAISE 1 5 1")
            + ", BEGIN, RUN 1, CATCH -1, CATCH 1, LAST, END"), "act 2 = 1; acted 0 = 300; acted 4 = 1; field 1 5 = 286");
        Script.run("50: the 301st is BEGIN", HOUSE, many, plan(1, times(12, "RUN 0")), plan(2, times(11, "RAISE 1 5 1")
            + ", RUN 1, BEGIN, END"), "act 2 = SPENT; acted 0 = 300");
        Script.run("50: the 301st is ANSWER", HOUSE, many, plan(1, times(12, "RUN 0")), plan(2, times(11, "RAISE 1 5 1")
            + ", RUN 1, ANSWER 1"), "act 2 = SPENT; acted 0 = 300; answer = 0");
        Script.run("50: the 300th is ANSWER", HOUSE, many, plan(1, times(12, "RUN 0")), plan(2, times(10, "RAISE 1 5 1")
            + ", RUN 1, ANSWER 1"), "act 2 = 2; acted 0 = 300; answer = 1");
        Script.run("50: the 301st is RUN", HOUSE, many, plan(1, times(12, "RUN 0")), plan(3, "RUN 2"), plan(2, times(11,
            "RAISE 1 5 1") + ", RUN 1"), "act 3 = SPENT; acted 0 = 300; field 1 5 = 0");
        Script.run("50: the 300th FAILS", HOUSE, many, plan(1, times(12, "RUN 0")), plan(2, times(10, "RAISE 1 5 1")
            + ", RUN 1, FAIL 20"), "act 2 = F20; acted 0 = 300; acted 1 = 20");
        Script.run("50: each act is counted by itself", HOUSE, many, plan(1, times(12, "RUN 0")),
            "act 1 = 1; acted 0 = 288; act 1 = 1; acted 0 = 288; field 1 5 = 552");
    }

    private static void spentByFailures() {
        String six = plan(0, times(6, "BEGIN, FAIL 20, CATCH 20, END"));
        Script.run("50: 12 FAILURES", HOUSE, six, plan(1, "PUT 0 0 1, RUN 0, RUN 0"),
            "act 1 = 1; acted 3 = 12; get 0 0 = 1; acted 5 = 0");
        Script.run("50: a 13th is 30 instead", HOUSE, six, plan(1, "PUT 0 0 1, RUN 0, RUN 0, FAIL 21"),
            "act 1 = SPENT; acted 1 = 30; acted 3 = 12; get 0 0 = 0; acted 5 = 1");
        Script.run("50: a 13th of another STEP", HOUSE, six, plan(1, "RUN 0, RUN 0, PUT -1 0 0"), "act 1 = SPENT; acted 0 = 27");
        Script.run("50: a 12th that goes on is itself", HOUSE, plan(0, times(5, "BEGIN, FAIL 20, CATCH 20, END")
            + ", BEGIN, CATCH -1, END"), plan(1, "RUN 0, RUN 0, BEGIN, FAIL 20, CATCH 20, END, FAIL 21"),
            "act 1 = F21; acted 1 = 21; acted 3 = 11");
        Script.run("50: each act is counted by itself", HOUSE, six, plan(1, "RUN 0, RUN 0"),
            "act 1 = 1; act 1 = 1; act 0 = 1; acted 3 = 6");
        Script.run("50: one that goes out of PLANS and BLOCKS is one", HOUSE, plan(0,
            "BEGIN, BEGIN, FAIL 20, LAST, END, LAST, END"), plan(1, "BEGIN, RUN 0, CATCH 20, END"), plan(2, times(12, "RUN 1")),
            "act 2 = 1; acted 3 = 12; acted 4 = 24; acted 5 = 0");
        Script.run("50: 13 of them", HOUSE, plan(0, "BEGIN, BEGIN, FAIL 20, LAST, END, LAST, END"), plan(1,
            "BEGIN, RUN 0, CATCH 20, END"), plan(2, times(13, "RUN 1")), "act 2 = SPENT; acted 3 = 12; acted 4 = 24; "
            + "acted 5 = 1");
    }

    private static void spentMeetsNothing() {
        String six = plan(0, times(6, "BEGIN, FAIL 20, CATCH 20, END"));
        Script.run("50: no CATCH, no LAST then", HOUSE, six, plan(1, "TAKE 0, HOLD 1, RUN 0, RUN 0, BEGIN, TAKE 1, HOLD 2, "
            + "FAIL 21, CATCH 21, PUT 0 0 1, CATCH -1, PUT 0 1 1, LAST, PUT 0 2 1, END"),
            "act 1 = SPENT; acted 3 = 12; acted 4 = 0; trace 0 = 300; trace 1 = 301; trace 2 = 511; trace 3 = 512; "
                + "trace 4 = 502; trace 5 = 101; trace 6 = 550; 3 * get 0 # = 0");
        Script.run("50: nor those of outer BLOCKS, of other PLANS", HOUSE, six, plan(1,
            "BEGIN, RUN 0, RUN 0, FAIL 21, LAST, PUT 0 0 1, END"), plan(2, "BEGIN, RUN 1, CATCH -1, PUT 0 1 1, LAST, PUT 0 2 1, "
            + "END, PUT 8 0 1"), "act 2 = SPENT; acted 3 = 12; acted 4 = 0; 3 * get 0 # = 0; get 8 0 = 0");
        Script.run("50: SPENT in a LAST: no LAST of outer BLOCKS", HOUSE, six, plan(1,
            "BEGIN, BEGIN, LAST, RUN 0, RUN 0, FAIL 21, END, CATCH -1, LAST, PUT 0 0 1, END"),
            "act 1 = SPENT; acted 4 = 1; acted 3 = 12");
        Script.run("50: a house is as before after SPENT", HOUSE, six, plan(1, "TAKE 0, HOLD 1, RUN 0, RUN 0, FAIL 21"), plan(2,
            "TAKE 0, HOLD 1, PUT 0 0 5"), "act 1 = SPENT; act 2 = 1; get 0 0 = 5; acted 0 = 3; acted 1 = 0; told 0 5 = 0; "
            + "tank 1 8 = 0");
    }

    private static void undone() {
        act("50: all that the ACT changed", "PUT 0 0 9, PUT 0 0 8, RAISE 1 7 3, RAISE 1 7 3, GO 5 0 4 1, GO 4 1 5 1, "
            + "EGGS 0 0 1 5, EGGS 0 0 1 5, TAKE 3, HOLD 2, FAIL 20",
            "put 0 0 1 = 1; setField 1 7 0.5d = 1; put 6 1 7 = 1; act 0 = F20; get 0 0 = 1; field 1 7 = 0.5d; mesh 5 0 = 2; "
                + "mesh 5 1 = 3; mesh 4 1 = NONE; get 6 1 = 7; told 3 5 = 0; tank 2 8 = 0; trace 0 = 303; trace 1 = 512; "
                + "acted 5 = 1");
        act("50: a GO over another FISH", "GO 5 0 5 1, FAIL 20", "act 0 = F20; mesh 5 0 = 2; mesh 5 1 = 3");
        act("50: a GO to the same MESH", "GO 5 1 5 1, FAIL 20", "act 0 = F20; mesh 5 1 = 3");
        act("50: BITS that were there", "PUT 8 0 5, RAISE 1 6 1, RAISE 1 5 1, FAIL 20",
            "put 8 0 0x8000000000000000 = 1; setField 1 6 0x7fc00000 = 1; setField 1 5 -1 = 1; act 0 = F20; "
            + "get 8 0 = 0x8000000000000000; field 1 6 = 0x7fc00000; field 1 5 = -1");
        act("50: what was done ahead of the BLOCK, in its LAST, behind it", "PUT 0 0 1, BEGIN, FAIL 20, LAST, PUT 0 1 1, END, "
            + "PUT 0 2 1", "act 0 = F20; 3 * get 0 # = 0; acted 4 = 1");
        act("50: what was done behind one that a LAST took the place of", "BEGIN, BEGIN, FAIL 20, LAST, FAIL 21, END, CATCH 21, "
            + "PUT 0 0 1, END, PUT 0 1 1", "act 0 = 1; 3 * get 0 # = 0; acted 5 = 1; failed = 0");
        act("50: TRAYS that were pulled out stay so", "EGGS 0 0 0 1, FAIL 20",
            "act 0 = F20; tray 7 0 = 6; tray 7 1 = NONE; get 6 0 = 0");
        Script.run("50: what PLANS that it RUNS changed", HOUSE, plan(0, "PUT 0 0 1"), plan(1, "RUN 0, PUT 0 1 1, FAIL 20"),
            "act 1 = F20; 3 * get 0 # = 0; act 0 = 1; get 0 0 = 1; act 1 = F20; get 0 0 = 1; get 0 1 = 0");
        Script.run("50: 300 changes of two MESHES", HOUSE, plan(0, times(11, "GO 5 0 5 1, GO 5 1 5 0") + ", GO 5 0 5 0"), plan(1,
            times(12, "RUN 0") + ", FAIL 20"), plan(2, times(10, "GO 5 0 5 0") + ", RUN 1"),
            "act 2 = F20; acted 0 = 300; mesh 5 0 = 2; mesh 5 1 = 3");
    }

    private static void notUndone() {
        act("50: a FAILURE that a CATCH took", "BEGIN, PUT 0 0 1, FAIL 20, CATCH 20, PUT 0 1 1, END",
            "act 0 = 1; get 0 0 = 1; get 0 1 = 1; acted 5 = 0");
        act("50: it went out of LASTS to its CATCH", "BEGIN, BEGIN, PUT 0 0 1, FAIL 20, LAST, PUT 0 1 1, END, CATCH 20, END",
            "act 0 = 1; get 0 0 = 1; get 0 1 = 1; acted 5 = 0");
        act("50: ANSWER", "PUT 0 0 1, ANSWER 5", "act 0 = 2; get 0 0 = 1; acted 5 = 0");
        act("50: THE TRACE", "TAKE 0, FAIL 20", "act 0 = F20; trace 0 = 300; trace 1 = 100; act 0 = F20; trace 2 = 300; "
            + "trace 3 = 100");
        act("50: what the ACT did not change", "PUT 0 1 1, RAISE 1 5 1, FAIL 20",
            "put 0 0 7 = 1; setField 1 4 8 = 1; act 0 = F20; "
            + "get 0 0 = 7; field 1 4 = 8; putIn 4 0 2 = 1; act 0 = F20; mesh 4 0 = 2; get 0 0 = 7");
        Script.run("50: what an earlier ACT changed, and a call since", HOUSE, plan(0, "PUT 0 0 1, PUT 0 1 1, PUT 0 2 1"),
            plan(1, "PUT 0 0 2, FAIL 20"), "act 0 = 1; put 0 1 9 = 1; put 0 2 8 = 1; act 1 = F20; get 0 0 = 1; get 0 1 = 9",
            "get 0 2 = 8");
        act("50: earlier acts, calls", "PUT 0 0 5, FAIL 20", "put 0 1 6 = 1; act 0 = F20; get 0 1 = 6; put 0 0 4 = 1; "
            + "act 0 = F20; get 0 0 = 4");
        act("50: what is told of it", "BEGIN, FAIL 20, CATCH 20, LAST, END, FAIL 21",
            "act 0 = F21; acted 0 = 3; acted 1 = 21; acted 3 = 1; acted 4 = 1; acted 5 = 1; count 3 = 6");
    }

    private static void answers() {
        act("51: the latest act() that answered 2", "ANSWER -5", "answer = 0; act 0 = 2; answer = -5; wipe 0 = 1; act 0 = 1; "
            + "answer = -5; step 0 6 20 0 0 0 = 0; act 0 = F20; answer = -5; act 4 = BAD; answer = -5; step 0 9 0 0 0 0 = 1; "
            + "act 0 = LACK; answer = -5");
        act("51: any long", "ANSWER 0x8000000000000000", "act 0 = 2; answer = 0x8000000000000000; wipe 0 = 1; "
            + "step 0 12 0 0 0 0x7fffffffffffffff = 0; act 0 = 2; answer = 0x7fffffffffffffff; wipe 0 = 1; "
            + "step 0 12 0 0 0 0 = 0; act 0 = 2; answer = 0");
        act("51: not one that a FAILURE took the place of", "BEGIN, ANSWER 5, LAST, FAIL 20, END", "act 0 = F20; answer = 0");
        act("50: the PLAN ends", "ANSWER 5, PUT 0 0 1, ANSWER 6", "act 0 = 2; answer = 5; get 0 0 = 0; acted 0 = 1");
    }

    private static void acted() {
        Script.run("52: 0 before; BAD", "6 * acted # = 0; acted -1 = BAD; acted 6 = BAD; acted max = BAD; acted min = BAD");
        act("52: of the latest act() that was not BAD, LACK", "BEGIN, FAIL 20, CATCH 20, LAST, END",
            "act 0 = 1; acted 0 = 2; acted 3 = 1; acted 4 = 1; act 4 = BAD; acted 3 = 1; step 1 10 0 0 0 0 = 0; act 1 = LACK; "
            + "acted 0 = 2; acted 3 = 1; act 2 = 1; 6 * acted # = 0");
        act("52: the FAILURE, and none by the next", "FAIL 29", "act 0 = F29; acted 1 = 29; acted 5 = 1; act 1 = 1; acted 1 = 0; "
            + "acted 5 = 0; acted 0 = 0");
        act("52: BAD leaves what failed() tells", "FAIL 29", "act 0 = F29; acted 6 = BAD; failed = 29; acted 0 = 1; failed = 29");
    }

    private static void trace() {
        Script.run("53: none such", "trace 0 = 0; trace -1 = 0; trace max = 0; trace min = 0; trace 60 = 0; trace 59 = 0");
        act("53: 0 the latest", "HOLD 1, HOLD 2", "act 0 = 1; trace 0 = 511; trace 1 = 512; trace 2 = 502; trace 3 = 501; "
            + "trace 4 = 0; trace -1 = 0; trace min = 0");
        act("53: the latest 60", "HOLD 5, " + times(14, "HOLD 0") + ", HOLD 4",
            "act 0 = 1; trace 31 = 505; trace 32 = 0; act 0 = 1; trace 59 = 500; trace 60 = 0; trace 63 = 0; trace 31 = 505; "
            + "trace 32 = 515; trace max = 0; act 0 = 1; trace 59 = 500; trace 60 = 0; trace 0 = 515");
        act("53: 60 of 60", "TAKE 0, TAKE 1, " + times(13, "HOLD 0"), "act 0 = 1; act 0 = 1; trace 59 = 100; trace 58 = 101; "
            + "trace 60 = 0; trace 30 = 300; trace 0 = 300; trace 1 = 301; act 3 = 1; trace 59 = 100; step 3 5 1 0 0 0 = 0; "
            + "act 3 = 1; trace 59 = 500; trace 1 = 501; trace 60 = 0");
        act("53: it goes on over acts, and those that are refused", "TAKE 3",
            "act 0 = 1; act 4 = BAD; trace 0 = 303; trace 1 = 103; step 1 10 0 0 0 0 = 0; act 1 = LACK; trace 0 = 303; "
            + "trace 2 = 0; act 0 = 1; trace 3 = 103");
    }
}

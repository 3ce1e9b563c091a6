/** The boundaries that promises 54 and 55 name, and what all calls answer that are refused. */
public final class LimitsOfDeskTest {
    /** ROW 0 (doubles), GRID 2 (ints) with TRAY 1, NETS 3 and 4, FISH 5, CARD 6; TANK 0 has 1000 fish; PLAN 0 ANSWERS. */
    private static final String HOUSE = "row 7 2 = 0; grid 4 1 1 = 2; net 0 1 = 3; net 0 1 = 4; fish 2 1 -1 -1 = 5; card = 6; "
        + "putIn 3 0 5 = 1; trays 0 2 = 1; "
        + "put 1 0 1000 = 1; warm 0 700 = 3; swim 0 = 1000; warm 0 700 = 3; probes 0 0 = 1; step 0 12 0 0 0 0 = 0; ";
    /** Calls of all names that are told of by failed(), each of which goes well on the house. */
    private static final String[] LOUD = {"row 4 1 = 7", "put 0 0 0 = 1", "get 0 0 = 0", "grid 4 1 1 = 8", "tray 2 0 = 1",
        "setTray 2 0 -1 = 1", "cell 2 0 0 = 0", "raise 2 0 0 1 no = 0", "move 0 0 0 1 1 = 1",
        "net 0 1 = 7", "fish 1 1 -1 -1 = 7", "putIn 4 0 -1 = 1", "letOut 3 0 0 = 5", "pass 3 0 4 0 1 = 1", "passed = 0",
            "mesh 3 0 = 5", "says 5 0 0 = 4", "grams 5 2 = 1", "card = 7", "field 6 0 = 0", "setField 6 0 0 = 1",
        "along 6 = 1", "copy 0 no = 7", "match 0 1 = 0", "as 5 0 = 1", "reading 0 0 no = 0", "test 0 0 1 0 no = 0",
            "probes 0 -1 = 1", "trust 0 0 yes = 1", "reason 0 0 = 0", "value 0 = 0", "wish 0 0 0 = 1", "setting 0 = 0",
        "minute = 0", "trays 0 -1 = 1", "eggs 0 0 0 1 no = 1", "warm 0 0 = 3", "swim 0 = 0", "died 0 1 0 = 999", "treat 0 0 = 0",
            "sell 0 1 = 999", "shift 0 1 1 = 1", "day 0 = 0", "tank 0 0 = 1000", "kin 5 5 no = 1",
        "step 0 12 0 0 0 0 = 1", "wipe 0 = 1", "act 0 = 2", "answer = 0"};

    public static void main(String[] args) {
        behindWhatGoesWell();
        behindWhatIsRefused();
        quietCalls();
        eachRefusal();
        answersThatLookLikeRefusals();
        counts();
        allOf512Calls();
        Script.end();
    }

    private static void behindWhatGoesWell() {
        for (String call : LOUD) Script.run("54: 0 behind a call that goes well", HOUSE, "row 9 9 = BAD; failed = -1; " + call
            + "; failed = 0; failed = 0");
        if (LOUD.length + 5 == 54) return;
        System.out.println("a call is left out");
        System.exit(1);
    }

    private static void behindWhatIsRefused() {
        for (String call : LOUD) {
            Script.run("54: the latest call, not the one before", HOUSE, call,
                "row 4 -1 = SIZE; failed = 4; day 1001 = BAD; failed = -1; died 5 1 0 = LACK; failed = -3; value 5 = NULL; "
                + "failed = 1; failed = 1");
        }
    }

    private static void quietCalls() {
        String all = "told 0 0 = 0; failed = @; told -1 0 = NULL; failed = @; told 0 9 = BAD; failed = @; told 9 0 = BAD; "
            + "failed = @; trace 0 = 0; failed = @; trace -1 = 0; failed = @; acted 0 = 0; failed = @; acted 9 = BAD; "
            + "failed = @; "
            + "count 0 = 7; failed = @; count 9 = BAD; failed = @; failed = @";
        Script.run("54: but told(), trace(), acted(), count(), this one: a FAILURE", HOUSE, "get 0 9 = INDEX; "
            + all.replace("@", "2"));
        Script.run("54: but told(), trace(), acted(), count(), this one: BAD", HOUSE, "act 9 = BAD; " + all.replace("@", "-1"));
        Script.run("54: but told(), trace(), acted(), count(), this one: LACK", HOUSE, "sell 1 1 = LACK; " + all.replace("@",
            "-3"));
        Script.run("54: but told(), trace(), acted(), count(), this one: 0", HOUSE, "get 0 0 = 0; " + all.replace("@", "0"));
        Script.run("54: 0 of a new object", "failed = 0; told 0 0 = BAD; failed = 0; count 9 = BAD; acted 9 = BAD; failed = 0");
    }

    private static void eachRefusal() {
        Script.run("54: each of BAD, FULL, LACK and the FAILURES", HOUSE, "row 8 1 = BAD; failed = -1; eggs 0 0 0 1 yes = LACK; "
            + "failed = -3; put -1 0 0 = NULL; failed = 1; put 0 2 0 = INDEX; failed = 2; put 6 0 0 = CAST; failed = 3; "
            + "net 0 -1 = SIZE; failed = 4",
            "setTray 2 0 0 = STORE; failed = 5; says 5 3 0 = ZERO; failed = 6; step 1 4 0 0 0 0 = 0; step 1 4 0 0 0 0 = 1; "
                + "act 1 = STATE; failed = 7; step 2 6 20 0 0 0 = 0; act 2 = F20; failed = 20; wipe 2 = 1; "
                + "step 2 6 29 0 0 0 = 0; act 2 = F29; failed = 29",
            "24 * step 3 12 0 0 0 0 = #; step 3 12 0 0 0 0 = FULL; failed = -2");
        Script.run("54: calls that answer a long: 0 for all of these", HOUSE,
            "get 9 0 = BAD; get -1 0 = NULL; get 6 0 = CAST; get 0 2 = INDEX; says 5 3 0 = ZERO; says 5 9 0 = BAD; "
            + "swim 1 = NULL; died 1 1 0 = LACK; died 1 0 0 = BAD; sell 1 1 = LACK; shift 1 0 1 = LACK; shift 0 0 1 = BAD; "
            + "value 1 = NULL; value 6 = BAD",
            "setting 6 = BAD; tank 0 11 = BAD; field 6 11 = BAD; field 0 0 = CAST; cell 2 1 0 = INDEX; raise 2 0 1 1 no = INDEX; "
                + "reading 1 0 no = CAST; kin 5 6 no = CAST; kin 5 -1 no = NULL");
    }

    private static void answersThatLookLikeRefusals() {
        Script.run("54: NONE, numbers below 0 that are no refusals", HOUSE, "setTray 2 0 -1 = 1; tray 2 0 = NONE; failed = 0; "
            + "mesh 4 0 = NONE; failed = 0; field 6 8 = NONE; failed = 0; tank 0 3 = NONE; failed = 0; setTray 2 0 1 = 1; "
            + "put 1 0 -12 = 1; get 1 0 = -12 ! 0; cell 2 0 0 = -12 ! 0",
            "raise 2 0 0 -1 yes = -13 ! 0; eggs 0 0 0 2 no = -11 ! 0; failed = 0; setField 6 8 6 = 1; along 6 = -101 ! 0; "
                + "failed = 0; says 5 4 -51 = -2 ! 0");
    }

    private static void counts() {
        Script.run("55: what is 0 to 6", "count -1 = BAD; count 7 = BAD; count max = BAD; count min = BAD; 7 * count # = 0");
        Script.run("55: THINGS", "row 4 1 = 0; count 0 = 1; grid 4 8 1 = 9; count 0 = 10; copy 9 yes = 18; count 0 = 19; "
            + "row 8 1 = BAD; count 0 = 19; row 4 -1 = SIZE; count 0 = 19; card = 19; count 0 = 20");
        Script.run("55: THINGS: nothing and the most", "count 0 = 0; 120 * card = #; count 0 = 120; card = FULL; count 0 = 120");
        Script.run("55: today", "count 1 = 0; day 1000 = 1000; count 1 = 1000; day 0 = 1000; day 1001 = BAD; count 1 = 1000; "
            + "minute = 0; count 1 = 1000");
        Script.run("55: MINUTES", "count 2 = 0; minute = 0; count 2 = 1; row 7 1 = 0; probes 0 0 = 1; minute = 0; count 2 = 2; "
            + "probes 0 -1 = 1; minute = 0; count 2 = 3; day 5 = 5; count 2 = 3");
        Script.run("55: STEPS of PLAN 0 to 3", "24 * step 0 12 0 0 0 0 = #; step 0 12 0 0 0 0 = FULL; count 3 = 24; "
            + "step 1 12 0 0 0 0 = 0; step 2 7 0 0 0 0 = 0; step 2 10 0 0 0 0 = 1; 3 * step 3 11 # 0 0 0 = #; count 4 = 1; "
            + "count 5 = 2; count 6 = 3; act 3 = 1; count 6 = 3; wipe 0 = 24; count 3 = 0; count 4 = 1");
    }

    /** The 512th call is the last of which something is told. */
    private static void allOf512Calls() {
        HatchHouse x = new HatchHouse();
        x.grid(4, 1, 1);
        for (int i = 0; i < 510; i++) x.raise(1, 0, 0, 1, true);
        long last = x.cell(1, 0, 0);
        HatchHouse y = new HatchHouse();
        y.step(0, 5, 1, 0, 0, 0);
        for (int i = 0; i < 510; i++) y.act(0);
        if (last == 510 && y.trace(59) == 501) return;
        System.out.println("the 512th call answered " + last);
        System.exit(1);
    }
}

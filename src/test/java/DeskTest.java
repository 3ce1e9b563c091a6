/** Promises 54 and 55: the desk. */
public final class DeskTest {
    public static void main(String[] args) {
        Script.run("54 failed", "failed = 0; row 9 1 = -1; failed = -1; failed = -1; told 0 0 = -1; trace 0 = 0; acted 0 = 0",
            "acted 9 = -1; count 0 = 0; count 9 = -1; failed = -1; row 4 -1 = -14; told -1 0 = -11; failed = 4; row 4 1 = 0",
            "failed = 0; told 5 0 = -1; failed = 0");
        // Every other call that goes well tells 0.
        String bad = "row 9 9 = -1; ";
        Script.run("54 failed behind each call", "row 4 2 = 0; grid 4 1 1 = 2; net 0 1 = 3; fish 1 1 -1 -1 = 4; card = 5",
            "row 7 2 = 6; net 0 1 = 7",
            bad + "put 0 0 1 = 1; failed = 0", bad + "get 0 0 = 1; failed = 0", bad + "tray 2 0 = 1; failed = 0", bad
                + "setTray 2 0 1 = 1",
            "failed = 0", bad + "cell 2 0 0 = 0; failed = 0", bad + "raise 2 0 0 1 no = 0; failed = 0", bad
                + "move 0 0 0 1 1 = 1",
            "failed = 0",
            bad + "putIn 3 0 4 = 1; failed = 0", bad + "pass 3 0 7 0 1 = 1; failed = 0", bad + "passed = 1; failed = 0", bad
                + "mesh 7 0 = 4",
            "failed = 0", bad + "letOut 7 0 0 = 4; failed = 0", bad + "says 4 0 0 = 3; failed = 0", bad + "grams 4 1 = 1",
            "failed = 0", bad + "field 5 0 = 0; failed = 0", bad + "setField 5 0 0 = 1; failed = 0",
            bad + "along 5 = 1; failed = 0", bad + "match 0 0 = 1; failed = 0", bad + "as 4 0 = 1; failed = 0", bad
                + "reading 6 0 no = 0",
            "failed = 0", bad + "test 6 0 1 4 no = 1; failed = 0", bad + "probes 0 6 = 1; failed = 0", bad + "trust 0 0 yes = 1",
            "failed = 0", bad + "reason 0 0 = 0; failed = 0", bad + "value 0 = 0; failed = 0",
            bad + "wish 0 0 0 = 1; failed = 0", bad + "setting 0 = 0; failed = 0", bad + "minute = 0; failed = 0", bad
                + "trays 0 2 = 1",
            "failed = 0", bad + "eggs 0 0 0 1 no = 2; failed = 0", bad + "warm 0 700 = 3; failed = 0", bad + "swim 0 = 2",
            "failed = 0", bad + "died 0 1 0 = 1; failed = 0",
            bad + "shift 0 1 1 = 1; failed = 0", bad + "sell 1 1 = 0; failed = 0", bad + "treat 0 0 = 0; failed = 0", bad
                + "day 0 = 0",
            "failed = 0", bad + "tank 0 0 = 0; failed = 0", bad + "kin 4 4 no = 1; failed = 0", bad + "step 0 12 0 0 0 0 = 0",
            "failed = 0", bad + "act 0 = 2; failed = 0", bad + "wipe 0 = 1; failed = 0", bad + "answer = 0; failed = 0", bad
                + "copy 0 no = 8",
            "failed = 0");
        Script.run("55 count", "count 0 = 0; grid 4 2 1 = 2; count 0 = 3; count 1 = 0; day 7 = 7; count 1 = 7; minute = 0",
            "minute = 0; count 2 = 2; step 0 7 0 0 0 0 = 0; step 3 7 0 0 0 0 = 0; step 3 7 0 0 0 0 = 1; count 3 = 1; count 4 = 0",
            "count 5 = 0; count 6 = 2; count 7 = -1; count -1 = -1; count max = -1; failed = 0");
        Script.end();
    }
}

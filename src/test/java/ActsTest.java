/** Promises 48 to 53: acts. */
public final class ActsTest {
    /** Row 0 (ints), card 1, trout 2, char 3, nets 4 (of trout), 5 (of all) with both, row 6 in grid 7 of tank 0, row 8 (longs). */
    private static final String HOUSE = "row 4 3 = 0; card = 1; fish 1 10 -1 -1 = 2; fish 3 20 -1 -1 = 3; net 1 2 = 4; "
        + "net 0 2 = 5; putIn 5 0 2 = 1; putIn 5 1 3 = 1; grid 4 1 2 = 7; trays 0 7 = 1; row 5 1 = 8";

    private static void house(String name, String... lines) {
        Script.run(name, HOUSE, String.join("; ", lines));
    }

    public static void main(String[] args) {
        steps();
        wiping();
        blocks();
        plainSteps();
        goings();
        catches();
        lasts();
        causes();
        holds();
        takes();
        runs();
        spentBySteps();
        spentByFailures();
        undoing();
        answers();
        told();
        traces();
        deepest();
        Script.end();
    }

    private static void steps() {
        house("48 step", "step 0 0 0 9 9 9 = 0; step 0 0 -1 0 0 0 = 1; step 0 0 9 0 0 0 = -1; step 0 0 -2 0 0 0 = -1",
            "step 0 1 3 7 0 0 = 2; step 0 1 1 8 0 0 = -1; step 0 1 1 -1 0 0 = -1; step 0 1 9 0 0 0 = -1; step 0 1 -1 0 0 0 = 3",
            "step 0 2 0 -5 1 0 = 4; step 0 2 -1 0 -1 0 = 5; step 0 2 9 0 0 0 = -1; step 0 2 0 0 9 0 = -1; step 0 2 0 0 -2 0 = -1",
            "step 0 3 5 9 9 0 = 6; step 0 3 6 0 0 0 = -1; step 0 3 -1 0 0 0 = -1; step 0 4 8 0 0 0 = 7; step 0 4 -1 0 0 0 = 8",
            "step 0 4 9 0 0 0 = -1; step 0 5 0 0 0 0 = 9; step 0 5 6 0 0 0 = -1; step 0 5 -1 0 0 0 = -1");
        house("48 step failures", "step 1 6 1 0 0 0 = 0; step 1 6 6 0 0 0 = 1; step 1 6 20 0 0 0 = 2; step 1 6 29 0 0 0 = 3",
            "step 1 6 0 0 0 0 = -1; step 1 6 7 0 0 0 = -1; step 1 6 19 0 0 0 = -1; step 1 6 30 0 0 0 = -1; "
                + "step 1 6 -1 0 0 0 = -1",
            "step 1 8 -1 0 0 0 = 4; step 1 8 1 0 0 0 = 5; step 1 8 7 0 0 0 = 6; step 1 8 20 0 0 0 = 7; step 1 8 29 0 0 0 = 8",
            "step 1 8 0 0 0 0 = -1; step 1 8 8 0 0 0 = -1; step 1 8 19 0 0 0 = -1; step 1 8 30 0 0 0 = -1; "
                + "step 1 8 -2 0 0 0 = -1",
            "failed = -1");
        house("48 step plans", "step 0 11 0 0 0 0 = -1; step 0 11 -1 0 0 0 = -1; step 1 11 0 0 0 0 = 0; step 1 11 1 0 0 0 = -1",
            "step 3 11 2 0 0 0 = 0; step 3 11 3 0 0 0 = -1; step 4 7 0 0 0 0 = -1; step -1 7 0 0 0 0 = -1; "
                + "step 0 13 0 0 0 0 = -1",
            "step 0 -1 0 0 0 0 = -1; step 0 7 99 99 99 99 = 0; step 0 9 99 99 99 99 = 1; step 0 10 -9 -9 -9 -9 = 2",
            "step 0 12 99 99 99 99 = 3; count 3 = 4; count 4 = 1; count 5 = 0; count 6 = 1");
        house("48 step full", "24 * step 2 12 0 0 0 0 = #", "step 2 12 0 0 0 0 = -2; failed = -2; step 2 6 0 0 0 0 = -1",
            "step 2 11 2 0 0 0 = -1; count 5 = 24; step 1 12 0 0 0 0 = 0");
    }

    private static void wiping() {
        house("49 wipe", "wipe 0 = 0; step 0 6 1 0 0 0 = 0; step 0 6 2 0 0 0 = 1; wipe 0 = 2; wipe 0 = 0; count 3 = 0; act 0 = 1",
            "step 0 12 0 0 0 5 = 0; act 0 = 2; wipe 4 = -1; wipe -1 = -1; failed = -1");
    }

    private static void blocks() {
        house("50 act empty", "act 0 = 1; failed = 0; acted 0 = 0; acted 5 = 0; act 4 = -1; failed = -1; act -1 = -1");
        house("50 blocks: end", "step 0 10 0 0 0 0 = 0; act 0 = -3; failed = -3");
        house("50 blocks: catch", "step 0 8 -1 0 0 0 = 0; act 0 = -3");
        house("50 blocks: last", "step 0 9 0 0 0 0 = 0; act 0 = -3");
        house("50 blocks: begin", "step 0 7 0 0 0 0 = 0; act 0 = -3; step 0 9 0 0 0 0 = 1; act 0 = -3; step 0 10 0 0 0 0 = 2",
            "act 0 = 1");
        house("50 blocks: catch behind last", "step 0 7 0 0 0 0 = 0; step 0 9 0 0 0 0 = 1; step 0 8 1 0 0 0 = 2",
            "step 0 10 0 0 0 0 = 3; act 0 = -3");
        house("50 blocks: two lasts", "step 0 7 0 0 0 0 = 0; step 0 9 0 0 0 0 = 1; step 0 9 0 0 0 0 = 2; step 0 10 0 0 0 0 = 3",
            "act 0 = -3");
        house("50 blocks: inner ones have their own", "step 0 7 0 0 0 0 = 0; step 0 9 0 0 0 0 = 1; step 0 7 0 0 0 0 = 2",
            "step 0 8 1 0 0 0 = 3; step 0 9 0 0 0 0 = 4; step 0 10 0 0 0 0 = 5; step 0 10 0 0 0 0 = 6; step 0 7 0 0 0 0 = 7",
            "step 0 8 1 0 0 0 = 8; step 0 8 1 0 0 0 = 9; step 0 10 0 0 0 0 = 10; act 0 = 1; acted 4 = 2; acted 0 = 3");
        house("50 blocks: behind an answer", "step 0 12 0 0 0 0 = 0; step 0 10 0 0 0 0 = 1; act 0 = -3");
        house("50 blocks of what is run", "step 0 10 0 0 0 0 = 0; step 1 11 0 0 0 0 = 0; step 2 12 0 0 0 0 = 0",
            "step 2 11 1 0 0 0 = 1; act 1 = -3; act 2 = -3; step 3 12 0 0 0 0 = 0; act 3 = 2; wipe 0 = 1; act 2 = 2");
    }

    private static void plainSteps() {
        house("50 put", "step 0 0 0 1 0 0x100000005 = 0; act 0 = 1; get 0 1 = 5; wipe 0 = 1; step 0 0 -1 9 0 1 = 0; act 0 = -11",
            "failed = 1; wipe 0 = 1; step 0 0 1 9 0 1 = 0; act 0 = -13; wipe 0 = 1; step 0 0 0 3 0 1 = 0; act 0 = -12; "
                + "wipe 0 = 1",
            "step 0 0 0 -1 0 1 = 0; act 0 = -12");
        house("50 raise", "step 0 1 1 1 0 200 = 0; step 0 1 1 7 0 3 = 1; step 0 1 1 6 0 1 = 2; act 0 = 1; field 1 1 = -56",
            "field 1 7 = 3.0d; field 1 6 = 1.0f; act 0 = 1; field 1 1 = -112; field 1 7 = 6.0d; wipe 0 = 3; "
                + "step 0 1 -1 0 0 1 = 0",
            "act 0 = -11; wipe 0 = 1; step 0 1 0 0 0 1 = 0; act 0 = -13; wipe 0 = 1; step 0 1 1 0 0 1 = 0; act 0 = -13",
            "field 1 0 = 0");
        house("50 eggs", "step 0 3 0 0 1 9 = 0; act 0 = 1; get 6 1 = 9; put 6 1 max = 1; act 0 = 1; get 6 1 = -2147483640",
            "wipe 0 = 1; step 0 3 1 9 9 1 = 0; act 0 = -11; wipe 0 = 1; step 0 3 0 1 0 1 = 0; act 0 = -12; wipe 0 = 1",
            "step 0 3 0 -1 0 1 = 0; act 0 = -12; wipe 0 = 1; step 0 3 0 0 2 1 = 0; act 0 = -12; setTray 7 0 -1 = 1; act 0 = -11");
        house("50 take, hold, fail", "step 0 4 -1 0 0 0 = 0; act 0 = -11; wipe 0 = 1; step 0 4 3 0 0 0 = 0; act 0 = 1; act 0 = 1",
            "told 3 5 = 0; step 0 4 3 0 0 0 = 1; act 0 = -17; failed = 7; told 3 5 = 0; wipe 0 = 2; step 0 5 4 0 0 0 = 0",
            "step 0 5 4 0 0 0 = 1; act 0 = 1; tank 4 8 = 0; wipe 0 = 2; step 0 6 29 0 0 0 = 0; act 0 = -39; failed = 29",
            "acted 1 = 29");
    }

    private static void goings() {
        house("50 go", "putIn 4 1 2 = 1; step 0 2 5 0 4 0 = 0; act 0 = 1; mesh 5 0 = -1; mesh 4 0 = 2; mesh 4 1 = 2; act 0 = -11",
            "failed = 1");
        house("50 go over another", "step 0 2 5 0 5 1 = 0; act 0 = 1; mesh 5 0 = -1; mesh 5 1 = 2");
        house("50 go to where it is", "step 0 2 5 1 5 1 = 0; act 0 = 1; mesh 5 1 = 3; mesh 5 0 = 2");
        house("50 go wrong", "step 0 2 -1 0 -1 0 = 0; act 0 = -11; wipe 0 = 1; step 0 2 0 0 -1 0 = 0; act 0 = -13; wipe 0 = 1",
            "step 0 2 5 2 -1 0 = 0; act 0 = -12; wipe 0 = 1; step 0 2 5 -1 -1 0 = 0; act 0 = -12; wipe 0 = 1",
            "step 0 2 4 0 0 0 = 0; act 0 = -11; wipe 0 = 1; step 0 2 5 0 -1 9 = 0; act 0 = -11; wipe 0 = 1; step 0 2 5 0 0 9 = 0",
            "act 0 = -13; wipe 0 = 1",
            "step 0 2 5 1 4 2 = 0; act 0 = -12; wipe 0 = 1; step 0 2 5 0 4 -1 = 0; act 0 = -12; wipe 0 = 1",
            "step 0 2 5 0 4 0x100000000 = 0; act 0 = -12; wipe 0 = 1; step 0 2 5 0 4 0x8000000000000000 = 0; act 0 = -12",
            "wipe 0 = 1; step 0 2 5 1 4 0 = 0; act 0 = -15; mesh 5 1 = 3; mesh 4 0 = -1");
    }

    private static void catches() {
        house("50 the first catch that takes it", "step 0 7 0 0 0 0 = 0; step 0 0 0 0 0 1 = 1; step 0 6 22 0 0 0 = 2",
            "step 0 0 0 1 0 1 = 3; step 0 8 21 0 0 0 = 4; step 0 0 0 1 0 2 = 5; step 0 8 22 0 0 0 = 6; step 0 0 0 1 0 3 = 7",
            "step 0 8 -1 0 0 0 = 8; step 0 0 0 1 0 4 = 9; step 0 8 22 0 0 0 = 10; step 0 0 0 1 0 5 = 11; step 0 10 0 0 0 0 = 12",
            "step 0 0 0 2 0 6 = 13",
            "act 0 = 1; failed = 0; get 0 0 = 1; get 0 1 = 3; get 0 2 = 6; acted 0 = 5; acted 1 = 0; acted 3 = 1; acted 4 = 0",
            "acted 5 = 0; trace 0 = 552; trace 1 = 0");
        house("50 none takes it", "step 0 7 0 0 0 0 = 0; step 0 0 0 0 0 1 = 1; step 0 6 22 0 0 0 = 2; step 0 8 21 0 0 0 = 3",
            "step 0 10 0 0 0 0 = 4; step 0 0 0 2 0 6 = 5; act 0 = -32; get 0 0 = 0; get 0 2 = 0; acted 0 = 3; acted 3 = 0",
            "acted 5 = 1");
        house("50 by an outer one", "step 0 7 0 0 0 0 = 0; step 0 7 0 0 0 0 = 1; step 0 6 2 0 0 0 = 2; step 0 8 3 0 0 0 = 3",
            "step 0 10 0 0 0 0 = 4; step 0 0 0 1 0 1 = 5; step 0 8 -1 0 0 0 = 6; step 0 0 0 0 0 9 = 7; step 0 10 0 0 0 0 = 8",
            "act 0 = 1; get 0 1 = 0; get 0 0 = 9; acted 3 = 1; acted 5 = 0; trace 0 = 532");
        house("50 a catch that fails", "step 0 7 0 0 0 0 = 0; step 0 7 0 0 0 0 = 1; step 0 6 2 0 0 0 = 2; step 0 8 -1 0 0 0 = 3",
            "step 0 6 3 0 0 0 = 4; step 0 8 3 0 0 0 = 5; step 0 0 0 0 0 1 = 6; step 0 10 0 0 0 0 = 7; step 0 8 3 0 0 0 = 8",
            "step 0 0 0 0 0 2 = 9; step 0 10 0 0 0 0 = 10; act 0 = 1; get 0 0 = 2; acted 3 = 2; acted 5 = 0; trace 0 = 533",
            "trace 1 = 532");
        house("50 a catch with nothing to take", "step 0 7 0 0 0 0 = 0; step 0 8 -1 0 0 0 = 1; step 0 0 0 0 0 1 = 2",
            "step 0 10 0 0 0 0 = 3; act 0 = 1; get 0 0 = 0; acted 3 = 0; acted 0 = 1");
        house("50 state is taken, too", "step 0 7 0 0 0 0 = 0; step 0 4 2 0 0 0 = 1; step 0 4 2 0 0 0 = 2; step 0 8 7 0 0 0 = 3",
            "step 0 10 0 0 0 0 = 4; act 0 = 1; trace 0 = 302; trace 1 = 537; trace 2 = 102; trace 3 = 0");
    }

    private static void lasts() {
        house("50 last at the end", "step 0 7 0 0 0 0 = 0; step 0 0 0 0 0 1 = 1; step 0 9 0 0 0 0 = 2; step 0 0 0 1 0 2 = 3",
            "step 0 10 0 0 0 0 = 4; step 0 0 0 2 0 3 = 5; act 0 = 1; get 0 0 = 1; get 0 1 = 2; get 0 2 = 3; acted 4 = 1",
            "trace 0 = 520; acted 0 = 4");
        house("50 last by a failure", "step 0 7 0 0 0 0 = 0; step 0 7 0 0 0 0 = 1; step 0 6 21 0 0 0 = 2; step 0 9 0 0 0 0 = 3",
            "step 0 0 0 1 0 2 = 4; step 0 10 0 0 0 0 = 5; step 0 0 0 2 0 3 = 6; step 0 8 21 0 0 0 = 7; step 0 10 0 0 0 0 = 8",
            "act 0 = 1; get 0 1 = 2; get 0 2 = 0; trace 0 = 551; trace 1 = 520; acted 5 = 0");
        house("50 last by an answer", "step 0 7 0 0 0 0 = 0; step 0 12 0 0 0 7 = 1; step 0 9 0 0 0 0 = 2; step 0 0 0 1 0 2 = 3",
            "step 0 10 0 0 0 0 = 4; step 0 0 0 2 0 3 = 5; act 0 = 2; answer = 7; get 0 1 = 2; get 0 2 = 0; acted 4 = 1",
            "acted 5 = 0");
        house("50 last behind a catch", "step 0 7 0 0 0 0 = 0; step 0 6 4 0 0 0 = 1; step 0 8 4 0 0 0 = 2; step 0 0 0 0 0 5 = 3",
            "step 0 9 0 0 0 0 = 4; step 0 0 0 0 0 6 = 5; step 0 10 0 0 0 0 = 6; act 0 = 1; get 0 0 = 6; trace 0 = 520",
            "trace 1 = 534");
        house("50 last behind a catch that fails", "step 0 7 0 0 0 0 = 0; step 0 6 4 0 0 0 = 1; step 0 8 4 0 0 0 = 2",
            "step 0 6 5 0 0 0 = 3; step 0 9 0 0 0 0 = 4; step 0 0 0 0 0 6 = 5; step 0 10 0 0 0 0 = 6; act 0 = -15; acted 4 = 1",
            "acted 3 = 1; acted 2 = 0; acted 1 = 5; get 0 0 = 0; acted 5 = 1");
        house("50 last behind a catch that answers", "step 0 7 0 0 0 0 = 0; step 0 6 4 0 0 0 = 1; step 0 8 4 0 0 0 = 2",
            "step 0 12 0 0 0 5 = 3; step 0 9 0 0 0 0 = 4; step 0 0 0 0 0 6 = 5; step 0 10 0 0 0 0 = 6; act 0 = 2; answer = 5",
            "acted 4 = 1; acted 5 = 0; get 0 0 = 6");
        house("50 last answers instead of an answer", "step 0 7 0 0 0 0 = 0; step 0 12 0 0 0 7 = 1; step 0 9 0 0 0 0 = 2",
            "step 0 12 0 0 0 8 = 3; step 0 10 0 0 0 0 = 4; step 0 0 0 0 0 1 = 5; act 0 = 2; answer = 8; acted 5 = 0; "
                + "get 0 0 = 0");
        house("50 last answers instead of an end", "step 0 7 0 0 0 0 = 0; step 0 0 0 0 0 1 = 1; step 0 9 0 0 0 0 = 2",
            "step 0 12 0 0 0 8 = 3; step 0 10 0 0 0 0 = 4; step 0 0 0 0 0 2 = 5; act 0 = 2; answer = 8; get 0 0 = 1");
        house("50 last answers instead of a failure", "step 0 7 0 0 0 0 = 0; step 0 0 0 0 0 1 = 1; step 0 6 2 0 0 0 = 2",
            "step 0 9 0 0 0 0 = 3; step 0 12 0 0 0 8 = 4; step 0 10 0 0 0 0 = 5; act 0 = 2; failed = 0; answer = 8; get 0 0 = 0",
            "acted 5 = 1; acted 1 = 0; acted 2 = 0");
        house("50 last fails instead of an answer", "step 0 7 0 0 0 0 = 0; step 0 7 0 0 0 0 = 1; step 0 12 0 0 0 7 = 2",
            "step 0 9 0 0 0 0 = 3; step 0 6 25 0 0 0 = 4; step 0 10 0 0 0 0 = 5; step 0 8 25 0 0 0 = 6; step 0 0 0 0 0 1 = 7",
            "step 0 10 0 0 0 0 = 8; step 0 0 0 1 0 1 = 9; act 0 = 1; answer = 0; acted 5 = 0; get 0 0 = 1; get 0 1 = 1");
        house("50 its own catch is not for a last", "step 0 7 0 0 0 0 = 0; step 0 8 -1 0 0 0 = 1; step 0 9 0 0 0 0 = 2",
            "step 0 6 25 0 0 0 = 3; step 0 10 0 0 0 0 = 4; act 0 = -35; acted 2 = 0; acted 3 = 0");
        house("50 a run in a last keeps the answer", "step 0 12 0 0 0 3 = 0; step 1 7 0 0 0 0 = 0; step 1 12 0 0 0 7 = 1",
            "step 1 9 0 0 0 0 = 2; step 1 11 0 0 0 0 = 3; step 1 10 0 0 0 0 = 4; act 1 = 2; answer = 7; acted 0 = 4");
    }

    private static void causes() {
        house("52 cause", "step 0 7 0 0 0 0 = 0; step 0 6 3 0 0 0 = 1; step 0 9 0 0 0 0 = 2; step 0 6 6 0 0 0 = 3",
            "step 0 10 0 0 0 0 = 4; act 0 = -16; acted 1 = 6; acted 2 = 3; acted 5 = 1; step 1 7 0 0 0 0 = 0",
            "step 1 11 0 0 0 0 = 1; step 1 9 0 0 0 0 = 2; step 1 0 0 0 0 1 = 3; step 1 10 0 0 0 0 = 4; act 1 = -16; acted 2 = 3",
            "acted 4 = 2");
        house("52 cause of a cause", "step 0 7 0 0 0 0 = 0; step 0 7 0 0 0 0 = 1; step 0 6 1 0 0 0 = 2; step 0 9 0 0 0 0 = 3",
            "step 0 6 2 0 0 0 = 4; step 0 10 0 0 0 0 = 5; step 0 9 0 0 0 0 = 6; step 0 6 3 0 0 0 = 7; step 0 10 0 0 0 0 = 8",
            "act 0 = -13; acted 2 = 2");
        house("52 cause kept over what a last takes", "step 0 7 0 0 0 0 = 0; step 0 7 0 0 0 0 = 1; step 0 6 21 0 0 0 = 2",
            "step 0 9 0 0 0 0 = 3; step 0 6 22 0 0 0 = 4; step 0 10 0 0 0 0 = 5; step 0 9 0 0 0 0 = 6; step 0 7 0 0 0 0 = 7",
            "step 0 6 23 0 0 0 = 8; step 0 8 -1 0 0 0 = 9; step 0 10 0 0 0 0 = 10; step 0 10 0 0 0 0 = 11; act 0 = -32",
            "acted 2 = 21; acted 3 = 1");
        house("52 none in a catch", "step 0 7 0 0 0 0 = 0; step 0 6 3 0 0 0 = 1; step 0 8 -1 0 0 0 = 2; step 0 6 6 0 0 0 = 3",
            "step 0 10 0 0 0 0 = 4; act 0 = -16; acted 2 = 0");
        house("52 none in a last without a failure", "step 0 7 0 0 0 0 = 0; step 0 9 0 0 0 0 = 1; step 0 6 6 0 0 0 = 2",
            "step 0 10 0 0 0 0 = 3; act 0 = -16; acted 2 = 0; acted 5 = 1");
        house("52 a later failure has none", "step 0 7 0 0 0 0 = 0; step 0 7 0 0 0 0 = 1; step 0 6 3 0 0 0 = 2",
            "step 0 9 0 0 0 0 = 3; step 0 6 6 0 0 0 = 4; step 0 10 0 0 0 0 = 5; step 0 8 6 0 0 0 = 6; step 0 10 0 0 0 0 = 7",
            "step 0 6 2 0 0 0 = 8; act 0 = -12; acted 2 = 0");
    }

    private static void holds() {
        house("50 held in a plan", "step 0 5 1 0 0 0 = 0; step 0 5 2 0 0 0 = 1; step 0 5 1 0 0 0 = 2; act 0 = 1; trace 0 = 511",
            "trace 1 = 512; trace 2 = 511; trace 3 = 501; trace 4 = 502; trace 5 = 501; trace 6 = 0; tank 1 8 = 0");
        house("50 held in a block", "step 0 5 0 0 0 0 = 0; step 0 7 0 0 0 0 = 1; step 0 5 1 0 0 0 = 2; step 0 6 2 0 0 0 = 3",
            "step 0 8 2 0 0 0 = 4; step 0 5 2 0 0 0 = 5; step 0 9 0 0 0 0 = 6; step 0 5 3 0 0 0 = 7; step 0 10 0 0 0 0 = 8",
            "step 0 5 4 0 0 0 = 9; act 0 = 1",
            "trace 11 = 500; trace 10 = 501; trace 9 = 511; trace 8 = 532; trace 7 = 502; trace 6 = 512; trace 5 = 520",
            "trace 4 = 503; trace 3 = 513; trace 2 = 504; trace 1 = 514; trace 0 = 510; trace 12 = 0");
        house("50 held, then answered", "step 0 5 0 0 0 0 = 0; step 0 7 0 0 0 0 = 1; step 0 5 1 0 0 0 = 2; step 0 12 0 0 0 1 = 3",
            "step 0 9 0 0 0 0 = 4; step 0 5 2 0 0 0 = 5; step 0 6 1 0 0 0 = 6; step 0 10 0 0 0 0 = 7; act 0 = -11; trace 6 = 500",
            "trace 5 = 501; trace 4 = 511; trace 3 = 520; trace 2 = 502; trace 1 = 512; trace 0 = 510; 6 * tank # 8 = 0");
    }

    private static void takes() {
        house("50 taken", "step 0 7 0 0 0 0 = 0; step 0 4 5 0 0 0 = 1; step 0 5 3 0 0 0 = 2; step 0 10 0 0 0 0 = 3",
            "step 0 4 0 0 0 0 = 4; step 0 5 2 0 0 0 = 5; act 0 = 1; trace 7 = 105; trace 6 = 503; trace 5 = 513; trace 4 = 100",
            "trace 3 = 502; trace 2 = 512; trace 1 = 300; trace 0 = 305; told 5 5 = 0; told 0 5 = 0");
        house("50 taken in a plan that is run", "step 0 4 1 0 0 0 = 0; step 0 5 0 0 0 0 = 1; step 1 11 0 0 0 0 = 0",
            "step 1 4 1 0 0 0 = 1; act 1 = 1; trace 5 = 101; trace 4 = 500; trace 3 = 510; trace 2 = 301; trace 1 = 101",
            "trace 0 = 301; wipe 1 = 2; step 1 4 1 0 0 0 = 0; step 1 11 0 0 0 0 = 1; act 1 = -17; trace 0 = 301; trace 1 = 101",
            "act 0 = 1");
        house("50 put back by failure and answer", "step 0 4 1 0 0 0 = 0; step 0 6 1 0 0 0 = 1; act 0 = -11; trace 0 = 301",
            "trace 1 = 101; step 1 4 2 0 0 0 = 0; step 1 12 0 0 0 0 = 1; act 1 = 2; trace 0 = 302; trace 1 = 102; told 2 5 = 0");
        house("50 taken things work all the same", "step 0 4 0 0 0 0 = 0; step 0 0 0 0 0 4 = 1; act 0 = 1; get 0 0 = 4");
    }

    private static void runs() {
        house("50 run", "step 0 0 0 0 0 4 = 0; step 0 12 0 0 0 9 = 1; step 0 0 0 1 0 4 = 2; step 1 11 0 0 0 0 = 0",
            "step 1 0 0 2 0 5 = 1; act 1 = 1; answer = 0; get 0 0 = 4; get 0 1 = 0; get 0 2 = 5; acted 0 = 4",
            "step 2 11 1 0 0 0 = 0; step 3 11 2 0 0 0 = 0; act 3 = 1; acted 0 = 6");
        house("50 run fails", "step 0 0 0 0 0 4 = 0; step 0 6 21 0 0 0 = 1; step 1 7 0 0 0 0 = 0; step 1 11 0 0 0 0 = 1",
            "step 1 0 0 1 0 1 = 2; step 1 8 21 0 0 0 = 3; step 1 0 0 2 0 1 = 4; step 1 10 0 0 0 0 = 5; act 1 = 1; get 0 0 = 4",
            "get 0 1 = 0; get 0 2 = 1; acted 5 = 0; acted 0 = 5; trace 0 = 551");
        house("50 run whose last took a failure's place", "step 0 7 0 0 0 0 = 0; step 0 0 0 0 0 1 = 1; step 0 6 3 0 0 0 = 2",
            "step 0 9 0 0 0 0 = 3; step 0 12 0 0 0 6 = 4; step 0 10 0 0 0 0 = 5; step 1 11 0 0 0 0 = 0; step 1 0 0 1 0 5 = 1",
            "act 1 = 1; failed = 0; acted 5 = 1; get 0 0 = 0; get 0 1 = 0; answer = 0; acted 0 = 6");
    }

    /** Plan 1 runs plan 0, of 23 plain steps, 12 times: 288 steps; plan 2 has the rest. */
    private static void spentBySteps() {
        String runs = "23 * step 0 1 1 5 0 1 = #; 12 * step 1 11 0 0 0 0 = #";
        house("50 300 steps", runs, "11 * step 2 1 1 5 0 1 = #; step 2 11 1 0 0 0 = 11; act 2 = 1; acted 0 = 300; "
            + "field 1 5 = 287",
            "act 2 = 1; field 1 5 = 574");
        house("50 301 steps", runs, "step 2 4 0 0 0 0 = 0; step 2 5 4 0 0 0 = 1; step 2 7 0 0 0 0 = 2; step 2 0 0 0 0 5 = 3",
            "step 2 0 0 0 0 5 = 4; step 2 0 0 0 0 5 = 5; step 2 0 0 0 0 5 = 6; step 2 0 0 0 0 5 = 7; step 2 0 0 0 0 5 = 8",
            "step 2 0 0 0 0 5 = 9; step 2 0 0 0 0 5 = 10",
            "step 2 11 1 0 0 0 = 11; step 2 7 0 0 0 0 = 12; step 2 10 0 0 0 0 = 13; step 2 8 -1 0 0 0 = 14; "
                + "step 2 9 0 0 0 0 = 15",
            "step 2 10 0 0 0 0 = 16; act 2 = -40; failed = 30; acted 0 = 300; acted 1 = 30; acted 2 = 0; acted 3 = 0; "
                + "acted 4 = 0",
            "acted 5 = 1; field 1 5 = 0; get 0 0 = 0; trace 0 = 300; trace 1 = 514; trace 2 = 504; trace 3 = 100; told 0 5 = 0",
            "tank 4 8 = 0");
        house("50 301 steps in a last", runs, "step 2 7 0 0 0 0 = 0; step 2 6 24 0 0 0 = 1; step 2 9 0 0 0 0 = 2",
            "step 2 5 1 0 0 0 = 3; step 2 11 1 0 0 0 = 4; step 2 11 0 0 0 0 = 5; step 2 10 0 0 0 0 = 6; act 2 = -40",
            "acted 0 = 300; acted 1 = 30; acted 2 = 24; acted 4 = 1; acted 5 = 1; trace 0 = 511; trace 1 = 501; trace 2 = 520",
            "field 1 5 = 0");
    }

    private static void spentByFailures() {
        // Plan 0: six failures that are taken.
        StringBuilder six = new StringBuilder();
        for (int i = 0; i < 6; i++) {
            six.append("step 0 7 0 0 0 0 = " + 4 * i + "; step 0 6 2" + i + " 0 0 0 = " + (4 * i + 1) + "; ");
            six.append("step 0 8 -1 0 0 0 = " + (4 * i + 2) + "; step 0 10 0 0 0 0 = " + (4 * i + 3) + "; ");
        }
        String twice = six + "step 1 11 0 0 0 0 = 0; step 1 11 0 0 0 0 = 1";
        house("50 12 failures", twice, "act 1 = 1; acted 0 = 26; acted 3 = 12; acted 5 = 0");
        house("50 13 failures", twice, "step 1 7 0 0 0 0 = 2; step 1 6 5 0 0 0 = 3; step 1 8 -1 0 0 0 = 4; step 1 9 0 0 0 0 = 5",
            "step 1 10 0 0 0 0 = 6; act 1 = -40; failed = 30; acted 0 = 28; acted 1 = 30; acted 2 = 0; acted 3 = 12; acted 4 = 0",
            "acted 5 = 1");
        house("50 the 13th in a catch", twice, "wipe 1 = 2; step 1 7 0 0 0 0 = 0; step 1 11 0 0 0 0 = 1; step 1 6 1 0 0 0 = 2",
            "step 1 8 -1 0 0 0 = 3; step 1 11 0 0 0 0 = 4; step 1 9 0 0 0 0 = 5; step 1 10 0 0 0 0 = 6; act 1 = -40; acted 2 = 0",
            "acted 3 = 12; acted 4 = 0");
        house("50 the 13th in a last", twice, "step 1 7 0 0 0 0 = 2; step 1 9 0 0 0 0 = 3; step 1 0 0 9 0 0 = 4",
            "step 1 10 0 0 0 0 = 5; act 1 = -40; acted 2 = 0; acted 4 = 1; wipe 1 = 6; step 1 11 0 0 0 0 = 0",
            "step 1 7 0 0 0 0 = 1; step 1 6 27 0 0 0 = 2; step 1 9 0 0 0 0 = 3; step 1 11 0 0 0 0 = 4; step 1 10 0 0 0 0 = 5",
            "act 1 = -40; acted 1 = 30; acted 2 = 27; acted 3 = 11; acted 4 = 1");
        house("50 a failure that goes through plans is one", "step 0 6 2 0 0 0 = 0; step 1 11 0 0 0 0 = 0; step 2 7 0 0 0 0 = 0",
            "step 2 11 1 0 0 0 = 1; step 2 8 -1 0 0 0 = 2; step 2 10 0 0 0 0 = 3; 9 * step 3 11 2 0 0 0 = #; act 3 = 1",
            "acted 3 = 9; step 3 11 2 0 0 0 = 9; step 3 11 2 0 0 0 = 10; step 3 11 2 0 0 0 = 11; act 3 = 1; acted 3 = 12",
            "step 3 11 2 0 0 0 = 12; act 3 = -40; acted 3 = 12");
    }

    private static void undoing() {
        house("50 undone", "put 0 0 1 = 1; setField 1 6 1.5f = 1; put 6 1 8 = 1; step 0 0 0 0 0 9 = 0; step 0 0 0 0 0 8 = 1",
            "step 0 1 1 6 0 3 = 2; step 0 1 1 6 0 3 = 3; step 0 2 5 0 4 1 = 4; step 0 2 4 1 5 1 = 5; step 0 3 0 0 1 5 = 6",
            "step 0 5 2 0 0 0 = 7; act 0 = 1; get 0 0 = 8; field 1 6 = 7.5f; mesh 5 0 = -1; mesh 5 1 = 2; mesh 4 1 = -1",
            "cell 7 0 1 = 13",
            "putIn 5 0 2 = 1; putIn 5 1 3 = 1; step 0 6 28 0 0 0 = 8; act 0 = -38; get 0 0 = 8; field 1 6 = 7.5f; mesh 5 0 = 2",
            "mesh 5 1 = 3; mesh 4 1 = -1; cell 7 0 1 = 13; acted 5 = 1; trace 0 = 512; trace 1 = 502");
        house("50 not undone what was taken", "step 0 7 0 0 0 0 = 0; step 0 0 0 0 0 5 = 1; step 0 6 1 0 0 0 = 2",
            "step 0 8 1 0 0 0 = 3; step 0 10 0 0 0 0 = 4; act 0 = 1; get 0 0 = 5; acted 5 = 0");
        house("50 undone though it went to its end", "step 0 7 0 0 0 0 = 0; step 0 7 0 0 0 0 = 1; step 0 6 1 0 0 0 = 2",
            "step 0 9 0 0 0 0 = 3; step 0 6 2 0 0 0 = 4; step 0 10 0 0 0 0 = 5; step 0 8 2 0 0 0 = 6; step 0 10 0 0 0 0 = 7",
            "step 0 0 0 0 0 5 = 8; act 0 = 1; failed = 0; get 0 0 = 0; acted 5 = 1; acted 1 = 0; acted 2 = 0; acted 3 = 1",
            "act 0 = 1");
        house("50 each act by itself", "step 0 0 0 0 0 5 = 0; act 0 = 1; step 1 0 0 0 0 6 = 0; step 1 6 1 0 0 0 = 1; act 1 = -11",
            "get 0 0 = 5; act 0 = 1; get 0 0 = 5; acted 5 = 0");
    }

    private static void answers() {
        house("51 answer", "answer = 0 ! 0; step 0 12 0 0 0 -8000000000 = 0; act 0 = 2; answer = -8000000000 ! 0; wipe 0 = 1",
            "act 0 = 1; answer = -8000000000; step 0 6 1 0 0 0 = 0; act 0 = -11; answer = -8000000000 ! 0; step 1 12 0 0 0 0 = 0",
            "act 1 = 2; answer = 0");
        house("51 answer first", "step 0 12 0 0 0 4 = 0; step 0 12 0 0 0 5 = 1; act 0 = 2; answer = 4; acted 0 = 1");
    }

    private static void told() {
        house("52 acted", "6 * acted # = 0; acted 6 = -1; acted -1 = -1; failed = 0; step 0 6 23 0 0 0 = 0; act 0 = -33",
            "acted 0 = 1; acted 1 = 23; acted 2 = 0; acted 5 = 1; act 4 = -1; acted 1 = 23; step 1 9 0 0 0 0 = 0; act 1 = -3",
            "acted 1 = 23; acted 5 = 1; failed = -3; wipe 0 = 1; act 0 = 1; 6 * acted # = 0");
    }

    private static void traces() {
        StringBuilder holds = new StringBuilder();
        for (int i = 0; i < 16; i++) holds.append("step 0 5 " + i % 6 + " 0 0 0 = " + i + "; ");
        house("53 trace", holds + "trace -1 = 0; trace min = 0; trace max = 0; act 0 = 1; trace 0 = 510",
            "trace 31 = 500; trace 30 = 501; trace 32 = 0; trace 60 = 0; failed = 0",
            "act 0 = 1; trace 59 = 504; trace 32 = 510; trace 31 = 500; trace 60 = 0; trace 61 = 0",
            "trace 0 = 510; trace 1 = 511; act 0 = 1; trace 59 = 504; trace 15 = 513; trace 16 = 503");
        house("53 trace numbers", "card = 9; step 0 4 9 0 0 0 = 0; step 0 5 5 0 0 0 = 1; step 0 7 0 0 0 0 = 2",
            "step 0 6 29 0 0 0 = 3; step 0 8 29 0 0 0 = 4; step 0 9 0 0 0 0 = 5; step 0 10 0 0 0 0 = 6; act 0 = 1; trace 5 = 109",
            "trace 4 = 505; trace 3 = 559; trace 2 = 520; trace 1 = 515; trace 0 = 309; trace 6 = 0");
    }

    /** Blocks as deep as plans allow. */
    private static void deepest() {
        Script.run("50 deepest blocks", "12 * step 0 7 0 0 0 0 = #; 12 * step 0 10 0 0 0 0 = #+12",
            "11 * step 1 7 0 0 0 0 = #; step 1 11 0 0 0 0 = 11; 11 * step 1 10 0 0 0 0 = #+12",
            "11 * step 2 7 0 0 0 0 = #; step 2 11 1 0 0 0 = 11; 11 * step 2 10 0 0 0 0 = #+12",
            "11 * step 3 7 0 0 0 0 = #; step 3 11 2 0 0 0 = 11; 11 * step 3 10 0 0 0 0 = #+12", "act 3 = 1; acted 0 = 48");
    }
}

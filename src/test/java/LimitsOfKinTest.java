/** The boundaries that part 4 and promise 47 name, a sentence a run. */
public final class LimitsOfKinTest {
    public static void main(String[] args) {
        parents();
        powers();
        refused();
        Script.end();
    }

    private static void parents() {
        Script.run("47: with none it is 0, over 1", "fish 1 1 -1 -1 = 0; fish 1 1 -1 -1 = 1; kin 0 1 no = 0; kin 0 1 yes = 0; "
            + "kin 1 0 no = 0; kin 1 0 yes = 0");
        Script.run("47: of one with itself, without parents", "fish 1 1 -1 -1 = 0; kin 0 0 no = 1; kin 0 0 yes = 1");
        Script.run("47: of one with itself, with one parent", "fish 1 1 -1 -1 = 0; fish 1 1 0 -1 = 1; fish 1 1 -1 0 = 2; "
            + "kin 1 1 no = 1; kin 1 1 yes = 1; kin 2 2 yes = 1; kin 0 1 no = 1; kin 0 1 yes = 2",
            "kin 0 2 yes = 2; kin 1 2 no = 1; kin 1 2 yes = 3");
        Script.run("47: both parents are the same", "fish 1 1 -1 -1 = 0; fish 1 1 0 0 = 1; kin 1 1 no = 3; kin 1 1 yes = 2; "
            + "kin 0 1 no = 1; kin 0 1 yes = 1; fish 1 1 1 1 = 2; kin 2 2 no = 7; kin 2 2 yes = 3",
            "kin 0 2 no = 1; kin 0 2 yes = 1; kin 1 2 no = 3; kin 1 2 yes = 2");
        Script.run("47: the later one is taken apart, whichever is told first",
            "fish 1 1 -1 -1 = 0; fish 1 1 -1 -1 = 1; fish 1 1 0 1 = 2; fish 1 1 2 0 = 3; kin 3 2 no = 3; kin 2 3 no = 3; "
            + "kin 3 2 yes = 3; kin 2 3 yes = 3",
            "kin 3 1 no = 1; kin 3 1 yes = 3; kin 1 3 yes = 3; kin 3 0 no = 3; kin 0 3 yes = 3; kin 3 3 no = 5; kin 3 3 yes = 3");
        Script.run("47: a copy has the parents, but is another one", "fish 1 1 -1 -1 = 0; copy 0 no = 1; kin 0 1 no = 0; "
            + "kin 0 1 yes = 0; fish 1 1 0 -1 = 2; copy 2 no = 3; kin 2 3 no = 1; kin 2 3 yes = 3; kin 0 3 yes = 2");
        Script.run("47: in least terms", "fish 1 1 -1 -1 = 0; fish 1 1 -1 -1 = 1; fish 1 1 0 1 = 2; fish 1 1 0 1 = 3; "
            + "fish 1 1 2 3 = 4; kin 2 3 no = 1; kin 2 3 yes = 2; kin 4 0 no = 1; kin 4 0 yes = 2; kin 4 2 no = 3",
            "kin 4 2 yes = 3; kin 4 4 no = 5; kin 4 4 yes = 3");
        Script.run("47: those that were made between are of no matter", "fish 1 1 -1 -1 = 0; row 4 1 = 1; card = 2; "
            + "fish 3 1 0 0 = 3; grid 4 1 1 = 5; fish 2 1 3 0 = 6; kin 6 0 no = 1; kin 6 0 yes = 1; kin 6 3 no = 5; "
            + "kin 6 3 yes = 3",
            "kin 6 6 no = 3; kin 6 6 yes = 2");
        Script.run("47: KIN stays while FISH are made", "fish 1 1 -1 -1 = 0; kin 0 0 yes = 1; fish 1 1 0 0 = 1; kin 1 1 no = 3; "
            + "kin 0 0 no = 1; fish 1 1 1 0 = 2; kin 2 2 no = 3; kin 2 2 yes = 2; kin 2 1 no = 5; kin 2 1 yes = 3; "
            + "grams 1 9 = 1; kin 1 1 no = 3");
    }

    private static void powers() {
        Script.run("47: the power is 60, not 61", "120 * fish 1 1 #-1 -1 = #",
            "kin 0 0 yes = 1; kin 0 58 yes = 59; kin 0 59 yes = 60; kin 0 59 no = 1; kin 0 60 yes = LACK; kin 0 60 no = LACK; "
            + "kin 60 0 no = LACK",
            "kin 0 119 no = LACK; kin 60 119 no = 1; kin 60 119 yes = 60; kin 59 119 no = LACK; kin 119 60 yes = 60; "
                + "kin 119 119 no = 1; kin 119 119 yes = 1");
        // 61's KIN with 0 is half of twice 1 over 2^60: its own power is 60 again.
        Script.run("47: each in least terms", "60 * fish 1 1 #-1 -1 = #", "kin 0 59 yes = 60; fish 1 1 59 59 = 60; "
            + "kin 0 60 no = 1; kin 0 60 yes = 60; fish 1 1 59 58 = 61; kin 0 61 no = LACK; fish 1 1 58 58 = 62; "
            + "kin 0 62 yes = 59");
        Script.run("47: one that it is made of", "61 * fish 1 1 #-1 -1 = #", "kin 0 60 no = LACK; fish 1 1 60 60 = 61; "
            + "kin 0 61 no = LACK; fish 1 1 60 -1 = 62; kin 0 62 no = LACK; fish 1 1 60 0 = 63; kin 63 63 no = LACK",
            "kin 63 0 no = LACK; kin 63 60 no = LACK; fish 1 1 0 60 = 64; kin 64 64 yes = LACK; kin 62 62 no = 1; "
                + "kin 62 62 yes = 1; kin 64 59 yes = LACK; kin 64 58 yes = 60; kin 64 58 no = 72057594037927937");
        Script.run("47: LACK leaves the KIN of others", "62 * fish 1 1 #-1 -1 = #",
            "kin 0 61 no = LACK; kin 2 61 yes = 60; kin 1 61 no = LACK; kin 61 61 no = 1; kin 61 60 yes = 2");
        Script.run("47: an upper number of many digits", "30 * fish 1 1 #-1 #-1 = #",
            "kin 29 29 yes = 30; kin 29 29 no = 1073741823; kin 28 29 no = 536870911; kin 28 29 yes = 29; kin 0 29 no = 1; "
            + "kin 0 29 yes = 1");
        // Self-mated again and again: KIN is 1 less 1 over 2^(k + 1), so number 59 is the last that has a power of 60.
        Script.run("47: the greatest upper number", "61 * fish 1 1 #-1 #-1 = #",
            "kin 59 59 yes = 60; kin 59 59 no = 1152921504606846975; kin 60 60 no = LACK; kin 60 60 yes = LACK; "
            + "kin 59 60 no = 1152921504606846975; kin 59 60 yes = 60; kin 58 58 yes = 59");
    }

    private static void refused() {
        String zoo = "row 4 3 = 0; grid 4 1 2 = 2; net 0 2 = 3; fish 1 5 -1 -1 = 4; card = 5";
        Script.run("47: NULL, CAST (each)", zoo, "kin -1 4 no = NULL; kin 4 -1 no = NULL; kin -1 -1 yes = NULL; "
            + "kin -1 0 no = NULL; kin 0 -1 no = CAST; kin 0 4 no = CAST; kin 4 0 yes = CAST; kin 2 4 no = CAST; "
            + "kin 4 3 no = CAST",
            "kin 5 5 no = CAST; kin 4 4 no = 1");
        Script.run("47: BAD first", zoo, "kin 6 4 no = BAD; kin 4 6 no = BAD; kin -2 4 no = BAD; kin 4 -2 yes = BAD; "
            + "kin -1 6 no = BAD; kin 6 -1 no = BAD; kin 0 6 no = BAD; kin max 4 no = BAD; kin 4 min no = BAD; "
            + "kin 120 4 yes = BAD");
    }
}

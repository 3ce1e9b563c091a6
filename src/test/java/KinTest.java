/** Promise 47: kin. */
public final class KinTest {
    public static void main(String[] args) {
        Script.run("47 kin", "fish 1 1 -1 -1 = 0; fish 2 1 -1 -1 = 1; kin 0 0 no = 1 ! 0; kin 0 0 yes = 1; kin 0 1 no = 0 ! 0",
            "kin 0 1 yes = 0 ! 0; fish 3 1 0 1 = 2; fish 1 1 0 1 = 3; fish 1 1 0 -1 = 4",
            "kin 0 2 no = 1; kin 0 2 yes = 2; kin 2 0 yes = 2; kin 2 3 no = 1; kin 2 3 yes = 2; kin 2 4 no = 1; kin 2 4 yes = 3",
            "kin 4 1 no = 0; kin 4 1 yes = 0; kin 2 2 no = 1; kin 2 2 yes = 1",
            "fish 1 1 2 3 = 5; kin 5 5 no = 5; kin 5 5 yes = 3; kin 5 0 no = 1; kin 5 0 yes = 2; kin 5 2 no = 3; kin 5 2 yes = 3",
            "fish 1 1 5 4 = 6; kin 6 6 no = 9; kin 6 6 yes = 4; kin 6 5 no = 3; kin 6 5 yes = 3");
        // 5 with 6: half of 5 with 5 (5/8) and 5 with 4 (half of 2 with 4 and 3 with 4: 1/8): half of 6/8.
        Script.run("47 kin of one parent", "fish 1 1 -1 -1 = 0; fish 1 1 0 0 = 1; kin 1 1 no = 3; kin 1 1 yes = 2; "
            + "kin 0 1 no = 1",
            "kin 0 1 yes = 1; fish 1 1 1 1 = 2; kin 2 2 no = 7; kin 2 2 yes = 3; kin 1 2 no = 3; kin 1 2 yes = 2; copy 2 no = 3",
            "kin 2 3 no = 3; kin 2 3 yes = 2");
        Script.run("47 kin wrong", "fish 1 1 -1 -1 = 0; row 4 1 = 1; kin 0 1 no = 0 ! 3; kin 1 0 no = 0 ! 3; kin -1 0 no = 0 ! 1",
            "kin 0 -1 no = 0 ! 1; kin 1 -1 no = 0 ! 3; kin -1 1 no = 0 ! 1; kin 0 2 no = 0 ! -1; kin 2 0 yes = 0 ! -1",
            "kin -1 2 no = 0 ! -1; kin -2 0 no = 0 ! -1; fish 2 1 0 -1 = 2; kin 2 0 yes = 2");
        line();
        cancelled();
        Script.end();
    }

    /** Each is the young of the one before: kin of the first with number k is 1 over 2 to k + 1. */
    private static void line() {
        Script.run("47 kin of a line", "120 * fish 1 1 #-1 -1 = #", "kin 119 119 no = 1; kin 119 118 yes = 2; kin 0 58 yes = 59; "
            + "kin 0 59 no = 1 ! 0",
            "kin 0 59 yes = 60 ! 0; kin 0 60 no = 0 ! -3; kin 0 60 yes = 0 ! -3; kin 60 0 yes = 0 ! -3; kin 0 61 no = 0 ! -3",
            "kin 1 60 yes = 60; kin 60 60 yes = 1; kin 99 99 no = 1; kin 99 98 yes = 2; kin 99 40 yes = 60",
            "kin 99 39 yes = 0 ! -3");
    }

    private static void cancelled() {
        Script.run("47 kin in least terms", "61 * fish 1 1 #-1 -1 = #", "fish 1 1 59 59 = 61; kin 0 61 no = 1; "
            + "kin 0 61 yes = 60; fish 1 1 59 58 = 62",
            "kin 0 62 no = 0 ! -3; fish 1 1 57 58 = 63; kin 0 63 no = 3; kin 0 63 yes = 60; fish 1 1 63 59 = 64; kin 0 64 no = 1",
            "kin 0 64 yes = 59",
            "fish 1 1 60 60 = 65; kin 0 65 no = 0 ! -3; fish 1 1 60 0 = 66; kin 66 66 no = 0 ! -3; kin 66 60 no = 0 ! -3",
            "kin 66 1 no = 0 ! -3; kin 66 2 no = 72057594037927937; kin 66 2 yes = 60; fish 1 1 60 59 = 67; kin 0 67 no = 0 ! -3",
            "fish 1 1 59 60 = 68; kin 0 68 yes = 0 ! -3; kin 68 68 no = 5; kin 68 68 yes = 3");
    }
}

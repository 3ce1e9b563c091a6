/** Promises 28 and 29: readings. */
public final class ReadingsTest {
    public static void main(String[] args) {
        readings();
        edges();
        floats();
        tests();
        Script.end();
    }

    private static void readings() {
        Script.run("28 reading", "row 7 5 = 0; put 0 0 3.0d = 1; put 0 1 1.0d = 1; put 0 2 NaN = 1; put 0 3 8.5d = 1",
            "put 0 4 2.0d = 1",
            "reading 0 0 yes = 1.0d ! 0; reading 0 1 yes = 8.5d; reading 0 2 yes = 3.625d; reading 0 3 yes = 2.0d",
            "reading 0 4 yes = 0.3333333333333333d",
            "5 * reading 0 # no = NaN ! 0", "put 0 2 9.0d = 1; reading 0 0 no = 1.0d; reading 0 1 no = 9.0d",
            "reading 0 2 no = 4.7d; reading 0 3 no = 3.0d; reading 0 4 no = 0.25d; get 0 0 = 3.0d",
            "row 4 1 = 1; card = 2; reading 1 0 yes = 0 ! 3; reading 2 0 yes = 0 ! 3; reading -1 0 yes = 0 ! 1",
            "reading 0 5 yes = 0 ! -1; reading 0 -1 yes = 0 ! -1; reading -1 5 yes = 0 ! -1; reading 3 0 yes = 0 ! -1");
        Script.run("28 none, one", "row 7 0 = 0; 5 * reading 0 # yes = NaN ! 0; 5 * reading 0 # no = NaN", "row 7 1 = 1",
            "put 1 0 NaN = 1; 5 * reading 1 # yes = NaN", "put 1 0 -4.0d = 1; 4 * reading 1 # no = -4.0d",
            "reading 1 4 no = NaN ! 0");
    }

    private static void edges() {
        Script.run("28 likes", "row 7 3 = 0; put 0 0 0.0d = 1; put 0 1 -0.0d = 1; put 0 2 0.0d = 1; reading 0 0 no = 0.0d",
            "reading 0 1 no = 0.0d; reading 0 3 no = -0.0d; reading 0 2 no = 0.0d; put 0 0 -0.0d = 1; reading 0 0 no = -0.0d",
            "reading 0 1 no = -0.0d",
            "put 0 1 -0.0d = 1; put 0 2 -0.0d = 1; reading 0 2 no = 0.0d; reading 0 4 no = 0.0d; put 0 2 0.0d = 1",
            "reading 0 4 no = -0.0d; put 0 0 7.0d = 1; reading 0 3 no = 0.0d");
        Script.run("28 endless", "row 7 2 = 0; put 0 0 inf = 1; reading 0 0 no = 0.0d; reading 0 1 no = inf; "
            + "reading 0 2 no = inf",
            "reading 0 4 no = inf; put 0 1 -inf = 1; reading 0 2 no = NaN ! 0; reading 0 4 no = inf; reading 0 3 no = -inf",
            "put 0 1 inf = 1; reading 0 4 no = NaN ! 0; reading 0 2 no = inf",
            "put 0 0 1.7976931348623157E308d = 1; put 0 1 1.7976931348623157E308d = 1; reading 0 2 no = inf",
            "reading 0 4 no = 0.0d; put 0 0 -1.7976931348623157E308d = 1; reading 0 4 no = -inf; reading 0 2 no = 0.0d");
        Script.run("28 least numbers", "row 7 3 = 0; put 0 0 4.9E-324d = 1; reading 0 2 no = 0.0d; put 0 1 1.0E-323d = 1",
            "reading 0 2 no = 4.9E-324d; put 0 0 -4.9E-324d = 1; put 0 1 0.0d = 1; reading 0 2 no = -0.0d",
            "reading 0 0 no = -4.9E-324d; put 0 0 1.0E-310d = 1; put 0 2 -2.0E-308d = 1; reading 0 4 no = 1.005E-308d");
        // The sum goes from the first on: 1 is lost in 1e16 here, not there.
        Script.run("28 sums", "row 7 3 = 0; put 0 0 1.0d = 1; put 0 1 1.0E16d = 1; put 0 2 -1.0E16d = 1; reading 0 2 no = 0.0d",
            "put 0 0 1.0E16d = 1; put 0 1 -1.0E16d = 1; put 0 2 1.0d = 1; reading 0 2 no = 0.3333333333333333d; put 0 0 0.1d = 1",
            "put 0 1 0.2d = 1; put 0 2 0.3d = 1; reading 0 2 no = 0.20000000000000004d");
        Script.run("28 middle", "row 7 4 = 0; put 0 0 4.0d = 1; put 0 1 3.0d = 1; put 0 2 2.0d = 1; put 0 3 1.0d = 1",
            "reading 0 3 no = 2.0d; reading 0 1 no = 4.0d; reading 0 0 no = 1.0d; put 0 1 5.0d = 1; reading 0 1 no = 5.0d",
            "put 0 1 0.5d = 1; reading 0 0 no = 0.5d; put 0 1 3.0d = 1; put 0 3 NaN = 1; reading 0 3 yes = 3.0d; "
                + "put 0 0 -inf = 1",
            "reading 0 3 yes = 2.0d");
        Script.run("28 sixteen", "row 7 16 = 0", "16 * put 0 # #.5d = 1", "reading 0 0 no = 0.5d; reading 0 1 no = 15.5d",
            "reading 0 2 no = 8.0d; reading 0 3 no = 7.5d; reading 0 4 no = -1.0d");
    }

    private static void floats() {
        Script.run("28 floats", "row 6 3 = 0; put 0 0 0.1f = 1; put 0 1 -2.5f = 1; put 0 2 1.4E-45f = 1; reading 0 0 no = -2.5d",
            "reading 0 1 no = 0.10000000149011612d; reading 0 3 no = 1.401298464324817E-45d",
            "reading 0 4 no = 0.05000000074505806d",
            "put 0 2 0x7fc00000 = 1; reading 0 0 no = NaN; reading 0 2 yes = -1.199999999254942d; put 0 2 0x7f800000 = 1",
            "reading 0 1 no = inf; put 0 2 -8388608 = 1; reading 0 0 no = -inf; put 0 2 3.4028235E38f = 1",
            "reading 0 1 no = 3.4028234663852886E38d; put 0 0 -0.0f = 1; put 0 1 -0.0f = 1; reading 0 0 no = -0.0d",
            "put 0 1 1.1754942E-38f = 1; reading 0 3 no = 1.1754942106924411E-38d");
    }

    private static void tests() {
        Script.run("29 test", "row 7 4 = 0; put 0 0 1.0d = 1; put 0 1 2.0d = 1; put 0 2 1.0d = 1; put 0 3 NaN = 1",
            "test 0 0 1 0 no = 1; test 0 0 1 1 no = 1; test 0 0 1 2 no = 0; test 0 0 1 3 no = 0; test 0 0 1 4 no = 0",
            "test 0 0 1 5 no = 1", "test 0 1 0 0 no = 0; test 0 1 0 1 no = 0; test 0 1 0 2 no = 1; test 0 1 0 3 no = 1",
            "test 0 1 0 4 no = 0; test 0 1 0 5 no = 1",
            "test 0 0 2 0 no = 0; test 0 0 2 1 no = 1; test 0 0 2 2 no = 0; test 0 0 2 3 no = 1; test 0 0 2 4 no = 1",
            "test 0 0 2 5 no = 0", "test 0 0 3 0 no = 0; test 0 0 3 1 no = 0; test 0 3 0 2 no = 0; test 0 0 3 3 no = 0",
            "test 0 3 3 4 no = 0; test 0 3 3 5 no = 1",
            "test 0 0 3 0 yes = 1; test 0 0 3 1 yes = 1; test 0 3 0 2 yes = 1; test 0 0 3 3 yes = 1; test 0 3 3 4 yes = 1",
            "test 0 3 3 5 yes = 0; test 0 0 1 0 yes = 0; test 0 1 0 0 yes = 1");
        Script.run("29 test wrong", "row 7 2 = 0; row 5 2 = 1; card = 2; test 0 0 2 0 no = -12; test 0 2 0 0 no = -12",
            "test 0 -1 0 0 no = -12; test 1 0 0 0 no = -13; test 1 9 0 0 no = -13; test 2 0 0 0 no = -13; test -1 0 0 0 no = -11",
            "test 0 0 0 6 no = -1; test 0 0 0 -1 no = -1; test -1 0 0 6 no = -1; test 3 0 0 0 no = -1; failed = -1");
        Script.run("29 test zeros", "row 7 4 = 0; put 0 0 -0.0d = 1; put 0 2 -inf = 1; put 0 3 inf = 1; test 0 0 1 4 no = 1",
            "test 0 0 1 0 no = 0; test 0 0 1 3 no = 1; test 0 2 0 0 no = 1; test 0 3 0 2 no = 1; test 0 2 2 4 no = 1",
            "test 0 2 3 0 no = 1; put 0 0 -1.0d = 1; put 0 1 -2.0d = 1; test 0 1 0 0 no = 1",
            "row 6 2 = 1; put 1 0 0.1f = 1; put 1 1 -0.1f = 1; test 1 1 0 0 no = 1; test 1 0 0 4 no = 1; put 1 0 -0.2f = 1",
            "test 1 1 0 0 no = 0");
    }
}

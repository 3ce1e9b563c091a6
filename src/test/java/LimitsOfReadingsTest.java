/** The boundaries that part 2 and promises 28 and 29 name, a sentence a run. */
public final class LimitsOfReadingsTest {
    /** One of each SORT and LANE: ROWS 0 to 7 by their LANES, GRID 8, NET 9, FISH 10, CARD 11; 12 is no THING. */
    private static final String ZOO = "8 * row # 2 = #; grid 7 1 -1 = 8; net 0 2 = 9; fish 1 5 -1 -1 = 10; card = 11; ";

    public static void main(String[] args) {
        refused();
        none();
        one();
        lost();
        least();
        mean();
        middle();
        fall();
        floats();
        comparisons();
        denied();
        Script.end();
    }

    private static void refused() {
        Script.run("28: CAST: other LANES, other SORTS", ZOO, "6 * reading # 0 yes = CAST; reading 6 0 yes = 0.0d; "
            + "reading 7 0 yes = 0.0d; reading 8 0 no = CAST; reading 9 1 no = CAST",
            "reading 10 2 no = CAST; reading 11 4 no = CAST; reading -1 0 yes = NULL; reading -1 4 no = NULL");
        Script.run("28: what is 0 to 4", ZOO, "reading 7 -1 yes = BAD; reading 7 5 yes = BAD; reading 7 max no = BAD; "
            + "reading 7 min no = BAD; reading -1 5 no = BAD; reading 0 -1 no = BAD",
            "5 * reading 7 # no = 0.0d");
        Script.run("28: BAD: no THING", ZOO, "reading 12 0 yes = BAD; reading -2 0 yes = BAD; reading max 0 yes = BAD; "
            + "reading min 0 yes = BAD");
        Script.run("29: CAST: other LANES, other SORTS", ZOO, "6 * test # 0 1 0 no = CAST; test 6 0 1 4 no = 1; "
            + "test 7 0 1 4 no = 1; test 8 0 0 0 no = CAST; test 9 0 0 0 no = CAST",
            "test 10 0 0 0 no = CAST; test 11 0 0 0 no = CAST; test -1 0 0 0 no = NULL; 6 * test # 9 -1 0 no = CAST; "
                + "test -1 9 9 0 yes = NULL");
        Script.run("29: op is 0 to 5", ZOO, "test 7 0 1 -1 no = BAD; test 7 0 1 6 no = BAD; test 7 0 1 max yes = BAD; "
            + "test 7 0 1 min yes = BAD; test -1 0 0 6 no = BAD; test 0 0 0 -1 no = BAD",
            "test 7 9 9 6 no = BAD; test 12 0 0 0 no = BAD; test -2 0 0 0 no = BAD");
        Script.run("29: INDEX of the one, of the other, at both ends", ZOO, "test 7 2 0 0 no = INDEX; test 7 0 2 0 no = INDEX; "
            + "test 7 -1 0 0 no = INDEX; test 7 0 -1 0 no = INDEX",
            "test 7 max 0 1 no = INDEX; test 7 0 min 1 no = INDEX; test 7 1 1 1 no = 1; test 6 2 2 0 no = INDEX");
        Script.run("29: INDEX of no ITEMS", "row 7 0 = 0; test 0 0 0 4 no = INDEX; row 6 16 = 1; test 1 15 0 4 no = 1; "
            + "test 1 16 0 4 no = INDEX; test 1 0 16 4 yes = INDEX");
    }

    private static void none() {
        Script.run("28: of none: LOST", "row 7 0 = 0; row 6 0 = 1; 5 * reading 0 # yes = NaN; 5 * reading 0 # no = NaN; "
            + "5 * reading 1 # yes = NaN; 5 * reading 1 # no = NaN");
        Script.run("28: of none that is not LOST", "row 7 2 = 0; put 0 0 NaN = 1; put 0 1 NaN = 1; 5 * reading 0 # yes = NaN; "
            + "5 * reading 0 # no = NaN");
    }

    private static void one() {
        Script.run("28: of one", "row 7 1 = 0; put 0 0 -2.5d = 1; 4 * reading 0 # yes = -2.5d; 4 * reading 0 # no = -2.5d; "
            + "reading 0 4 yes = NaN; reading 0 4 no = NaN");
        Script.run("28: of one that is not LOST", "row 7 3 = 0; put 0 0 NaN = 1; put 0 1 6.5d = 1; put 0 2 NaN = 1; "
            + "4 * reading 0 # yes = 6.5d; reading 0 4 yes = NaN; 5 * reading 0 # no = NaN");
        Script.run("28: the sum goes from 0.0", "row 7 1 = 0; put 0 0 -0.0d = 1; reading 0 0 no = -0.0d; reading 0 1 no = -0.0d; "
            + "reading 0 2 no = 0.0d; reading 0 3 no = -0.0d");
    }

    private static void lost() {
        Script.run("28: one that is LOST, wherever it is", "row 7 3 = 0; put 0 0 1.0d = 1; put 0 1 2.0d = 1; put 0 2 3.0d = 1; "
            + "3 * reading 0 0 no = 1.0d; put 0 0 NaN = 1; 5 * reading 0 # no = NaN",
            "reading 0 0 yes = 2.0d; put 0 0 1.0d = 1; put 0 1 NaN = 1; 5 * reading 0 # no = NaN; reading 0 3 yes = 1.0d; "
                + "put 0 1 2.0d = 1; put 0 2 NaN = 1; 5 * reading 0 # no = NaN",
            "reading 0 4 yes = -1.0d; reading 0 2 yes = 1.5d");
        Script.run("28: endless ones are not LOST", "row 7 2 = 0; put 0 0 -inf = 1; put 0 1 inf = 1; reading 0 0 no = -inf; "
            + "reading 0 1 no = inf; reading 0 3 no = -inf; reading 0 4 no = -inf",
            "reading 0 2 no = NaN; reading 0 2 yes = NaN");
    }

    private static void least() {
        Script.run("28: of likes the first", "row 7 2 = 0; put 0 0 -0.0d = 1; reading 0 0 no = -0.0d; reading 0 1 no = -0.0d; "
            + "put 0 0 0.0d = 1; put 0 1 -0.0d = 1; reading 0 0 no = 0.0d",
            "reading 0 1 no = 0.0d");
        Script.run("28: of likes the first that is not LOST", "row 7 4 = 0; put 0 0 NaN = 1; put 0 1 -0.0d = 1; "
            + "put 0 3 5.0d = 1; reading 0 0 yes = -0.0d; put 0 3 -5.0d = 1; reading 0 1 yes = -0.0d");
        Script.run("28: by their size, not their BITS", "row 7 3 = 0; put 0 0 -1.0d = 1; put 0 1 -2.0d = 1; "
            + "put 0 2 4.9E-324d = 1; reading 0 0 no = -2.0d; reading 0 1 no = 4.9E-324d",
            "put 0 2 -4.9E-324d = 1; reading 0 1 no = -4.9E-324d; put 0 0 -1.7976931348623157E308d = 1; "
                + "reading 0 0 no = -1.7976931348623157E308d; put 0 1 -inf = 1",
            "reading 0 0 no = -inf; reading 0 3 no = -1.7976931348623157E308d");
        Script.run("28: in the first, the last of sixteen", "row 7 16 = 0; put 0 0 1.0d = 1; put 0 15 -1.0d = 1; "
            + "reading 0 0 no = -1.0d; reading 0 1 no = 1.0d; put 0 0 -3.0d = 1; put 0 15 3.0d = 1",
            "reading 0 0 no = -3.0d; reading 0 1 no = 3.0d");
    }

    private static void mean() {
        Script.run("28: the sum from the first on", "row 7 3 = 0; put 0 0 1.0d = 1; put 0 1 1.0E17d = 1; put 0 2 -1.0E17d = 1; "
            + "reading 0 2 no = 0.0d; put 0 0 -1.0E17d = 1; put 0 2 3.0d = 1",
            "reading 0 2 no = 1.0d");
        Script.run("28: over how many are not LOST", "row 7 4 = 0; put 0 0 3.0d = 1; put 0 1 NaN = 1; put 0 2 NaN = 1; "
            + "put 0 3 6.0d = 1; reading 0 2 yes = 4.5d; put 0 2 0.0d = 1; reading 0 2 yes = 3.0d");
        Script.run("28: a sum beyond all doubles is endless", "row 7 2 = 0; put 0 0 1.7976931348623157E308d = 1; "
            + "put 0 1 1.7976931348623157E308d = 1; reading 0 2 no = inf; put 0 1 1.0E291d = 1",
            "reading 0 2 no = 8.988465674311579E307d; put 0 0 -1.7976931348623157E308d = 1; "
                + "put 0 1 -1.7976931348623157E308d = 1; reading 0 2 no = -inf");
        Script.run("28: the least doubles", "row 7 2 = 0; put 0 0 4.9E-324d = 1; reading 0 2 no = 0.0d; put 0 1 4.9E-324d = 1; "
            + "reading 0 2 no = 4.9E-324d; put 0 1 9.9E-324d = 1",
            "reading 0 2 no = 9.9E-324d; put 0 0 -4.9E-324d = 1; put 0 1 0.0d = 1; reading 0 2 no = -0.0d; "
                + "put 0 0 2.2250738585072014E-308d = 1; reading 0 2 no = 1.1125369292536007E-308d");
        Script.run("28: zeros", "row 7 2 = 0; put 0 0 -0.0d = 1; put 0 1 -0.0d = 1; reading 0 2 no = 0.0d; put 0 0 1.0d = 1; "
            + "put 0 1 -1.0d = 1; reading 0 2 no = 0.0d");
    }

    private static void middle() {
        Script.run("28: at place (how many less 1) / 2", "row 7 4 = 0; put 0 0 4.0d = 1; put 0 1 1.0d = 1; put 0 2 3.0d = 1; "
            + "put 0 3 2.0d = 1; reading 0 3 no = 2.0d; put 0 3 NaN = 1",
            "reading 0 3 yes = 3.0d; put 0 2 NaN = 1; reading 0 3 yes = 1.0d; put 0 1 NaN = 1; reading 0 3 yes = 4.0d; "
                + "put 0 0 NaN = 1; reading 0 3 yes = NaN");
        Script.run("28: likes as they come", "row 7 3 = 0; put 0 0 0.0d = 1; put 0 1 -0.0d = 1; put 0 2 0.0d = 1; "
            + "reading 0 3 no = -0.0d; put 0 0 -0.0d = 1; put 0 1 0.0d = 1; put 0 2 -0.0d = 1",
            "reading 0 3 no = 0.0d; put 0 2 -1.0d = 1; reading 0 3 no = -0.0d; put 0 0 1.0d = 1; reading 0 3 no = 0.0d");
        Script.run("28: of sixteen the eighth, the ROW stays", "row 7 16 = 0; 16 * put 0 # -#.0d = 1",
            "reading 0 3 no = -8.0d; get 0 0 = -0.0d; get 0 15 = -15.0d; reading 0 0 no = -15.0d");
    }

    private static void fall() {
        Script.run("28: the first less the last, over how many less 1", "row 7 3 = 0; put 0 0 7.0d = 1; put 0 1 100.0d = 1; "
            + "put 0 2 2.0d = 1; reading 0 4 no = 2.5d; put 0 1 NaN = 1; reading 0 4 yes = 5.0d",
            "put 0 2 NaN = 1; reading 0 4 yes = NaN; put 0 1 8.0d = 1; reading 0 4 yes = -1.0d; put 0 0 NaN = 1; "
                + "reading 0 4 yes = NaN");
        Script.run("28: of two", "row 7 2 = 0; reading 0 4 no = 0.0d; put 0 0 1.0d = 1; reading 0 4 no = 1.0d; put 0 1 3.0d = 1; "
            + "reading 0 4 no = -2.0d; put 0 0 -0.0d = 1; put 0 1 0.0d = 1; reading 0 4 no = -0.0d");
        Script.run("28: a fall that is no number", "row 7 2 = 0; put 0 0 inf = 1; put 0 1 inf = 1; reading 0 4 no = NaN; "
            + "reading 0 2 no = inf; put 0 1 -inf = 1; reading 0 4 yes = inf; put 0 0 -inf = 1",
            "reading 0 4 no = NaN");
        Script.run("28: a fall beyond all doubles", "row 7 2 = 0; put 0 0 1.7976931348623157E308d = 1; put 0 1 -1.0E292d = 1; "
            + "reading 0 4 no = inf; put 0 0 -1.7976931348623157E308d = 1; put 0 1 1.0E292d = 1",
            "reading 0 4 no = -inf");
        Script.run("28: of sixteen", "row 7 16 = 0; put 0 0 30.0d = 1; put 0 15 15.0d = 1; reading 0 4 no = 1.0d");
    }

    private static void floats() {
        Script.run("28: floats as doubles", "row 6 2 = 0; put 0 0 0.1f = 1; put 0 1 0.2f = 1; "
            + "reading 0 0 no = 0.10000000149011612d; reading 0 2 no = 0.15000000223517418d",
            "reading 0 4 no = -0.10000000149011612d; put 0 0 1.4E-45f = 1; reading 0 0 no = 1.401298464324817E-45d; "
                + "put 0 0 -1.1754942E-38f = 1; reading 0 0 no = -1.1754942106924411E-38d",
            "put 0 0 1.17549435E-38f = 1; reading 0 0 no = 1.1754943508222875E-38d; put 0 0 -3.4028235E38f = 1; "
                + "reading 0 0 no = -3.4028234663852886E38d");
        Script.run("28: floats: sums go beyond floats", "row 6 2 = 0; put 0 0 3.4028235E38f = 1; put 0 1 3.4028235E38f = 1; "
            + "reading 0 2 no = 3.4028234663852886E38d; put 0 1 -3.4028235E38f = 1",
            "reading 0 4 no = 6.805646932770577E38d");
        Script.run("28: floats that are LOST, endless, zeros", "row 6 2 = 0; put 0 0 0x7f800001 = 1; reading 0 0 yes = 0.0d; "
            + "reading 0 0 no = NaN; put 0 0 0x7f800000 = 1; reading 0 1 no = inf; put 0 0 0xff800000 = 1",
            "reading 0 0 no = -inf; put 0 0 0x80000000 = 1; reading 0 0 no = -0.0d; put 0 1 0xffffffff = 1; "
                + "reading 0 1 no = NaN; reading 0 1 yes = -0.0d");
    }

    private static void comparisons() {
        String[] ops = {"100", "110", "001", "011", "010", "101"};
        StringBuilder lines = new StringBuilder("row 7 3 = 0; put 0 0 -1.5d = 1; put 0 1 -1.25d = 1; put 0 2 -1.25d = 1; ");
        for (int op = 0; op < 6; op++) {
            lines.append("test 0 0 1 " + op + " no = " + ops[op].charAt(0) + "; test 0 1 2 " + op + " no = " + ops[op].charAt(1)
                + "; test 0 1 0 " + op + " no = " + ops[op].charAt(2) + "; ");
        }
        Script.run("29: below, at most, above, at least, alike, unlike", lines.toString());
        Script.run("29: zeros are alike", "row 7 2 = 0; put 0 0 -0.0d = 1; test 0 0 1 0 no = 0; test 0 0 1 1 no = 1; "
            + "test 0 0 1 2 no = 0; test 0 0 1 3 no = 1; test 0 0 1 4 no = 1; test 0 0 1 5 no = 0; test 0 1 0 0 no = 0");
        Script.run("29: one ITEM with itself", "row 7 2 = 0; put 0 0 5.0d = 1; test 0 0 0 4 no = 1; test 0 0 0 5 no = 0; "
            + "test 0 0 0 1 no = 1; test 0 0 0 0 no = 0; put 0 0 NaN = 1; test 0 0 0 4 no = 0; test 0 0 0 5 no = 1",
            "test 0 0 0 1 no = 0; test 0 0 0 3 no = 0");
        Script.run("29: neighbours", "row 7 3 = 0; put 0 0 1.0d = 1; put 0 1 1.0000000000000002d = 1; test 0 0 1 0 no = 1; "
            + "test 0 0 1 4 no = 0; put 0 0 -4.9E-324d = 1; put 0 1 4.9E-324d = 1; test 0 0 1 0 no = 1",
            "test 0 0 2 0 no = 1; test 0 1 2 2 no = 1; put 0 0 inf = 1; put 0 1 1.7976931348623157E308d = 1; "
                + "test 0 1 0 0 no = 1; put 0 2 inf = 1; test 0 0 2 4 no = 1; put 0 2 -inf = 1; test 0 2 0 0 no = 1; "
                + "test 0 2 2 3 no = 1");
        Script.run("29: floats", "row 6 3 = 0; put 0 0 0.1f = 1; put 0 1 0.100000009f = 1; test 0 0 1 0 no = 1; "
            + "test 0 0 1 4 no = 0; put 0 2 0x7fc00000 = 1; test 0 2 2 5 no = 1; put 0 0 -0.1f = 1; test 0 0 1 0 no = 1");
    }

    private static void denied() {
        StringBuilder lines = new StringBuilder("row 7 3 = 0; put 0 0 1.0d = 1; put 0 1 2.0d = 1; put 0 2 NaN = 1; ");
        String[] below = {"0", "0", "1", "1", "1", "0"};
        String[] withLost = {"1", "1", "1", "1", "1", "0"};
        for (int op = 0; op < 6; op++) {
            lines.append("test 0 0 1 " + op + " yes = " + below[op] + "; test 0 0 2 " + op + " yes = " + withLost[op]
                + "; test 0 2 0 " + op + " yes = " + withLost[op] + "; ");
            lines.append("test 0 2 2 " + op + " yes = " + withLost[op] + "; test 0 2 0 " + op + " no = " + (op == 5 ? 1 : 0)
                + "; ");
        }
        Script.run("29: denied: whether that is not so", lines.toString());
    }
}

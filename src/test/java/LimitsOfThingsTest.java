/** The boundaries that part 1 and promises 1 to 27 name, a sentence a run. */
public final class LimitsOfThingsTest {
    /** One of each SORT: ROWS 0 and 1 (ints), GRID 2 with TRAY 1, NET 3 (of all), FISH 4 (a TROUT), CARD 5; 6 is no THING. */
    private static final String ZOO = "row 4 3 = 0; grid 4 1 2 = 2; net 0 2 = 3; fish 1 5 -1 -1 = 4; card = 5; ";
    private static final String SORTS = "RRGNFC";

    public static void main(String[] args) {
        newObjects();
        twoObjects();
        whatIsNoThing();
        whatIsNone();
        lanes();
        raised();
        rows();
        grids();
        trays();
        moves();
        nets();
        fish();
        meshes();
        letOut();
        passes();
        kinds();
        members();
        grams();
        cards();
        chains();
        copies();
        matches();
        told();
        full();
        Script.end();
    }

    /** Of a call with THING @: NONE is NULL, others of another SORT are CAST, what is no THING is BAD. */
    private static void wants(String call, String sort) {
        Script.run("no NONE, no other SORT: " + call, ZOO, (call + " = NULL").replace("@", "-1"), ofOthers(call, sort));
    }

    private static String ofOthers(String call, String sort) {
        StringBuilder lines = new StringBuilder();
        for (int thing = 0; thing < SORTS.length(); thing++) {
            if (!sort.contains(SORTS.substring(thing, thing + 1))) lines.append((call + " = CAST; ").replace("@", "" + thing));
        }
        for (String no : new String[] {"-2", "6", "7", "119", "120", "max", "min"}) lines.append((call + " = BAD; ").replace("@",
            no));
        return lines.toString();
    }

    private static void newObjects() {
        Script.run("1: no THINGS, PLANS without STEPS, day 0", "7 * count # = 0; 4 * wipe # = 0; 4 * act # = 1; row 0 0 = 0");
        Script.run("1: TANKS with nothing", "6 * tank # 0 = 0; 6 * tank # 1 = 0; 6 * tank # 2 = 0; 6 * tank # 3 = NONE",
            "6 * tank # 4 = 0; 6 * tank # 5 = 0; 6 * tank # 6 = 0; 6 * tank # 7 = 0; 6 * tank # 8 = 0; 6 * tank # 9 = NONE",
            "6 * tank # 10 = NONE; 6 * setting # = 0.0d; 6 * value # = NULL; 6 * swim # = NULL");
        Script.run("1: all PROBES are TRUSTED", "16 * reason 0 # = 0; 16 * reason 1 # = 0; 16 * reason 4 # = 0; "
            + "16 * reason 5 # = 0");
        Script.run("1: nothing was passed, answered, acted, traced, refused",
            "failed = 0; passed = 0; answer = 0; 6 * acted # = 0",
            "61 * trace # = 0");
    }

    /** A new object has nothing of another one, and leaves it alone. */
    private static void twoObjects() {
        HatchHouse one = new HatchHouse();
        one.row(4, 1);
        one.put(0, 0, 5);
        one.day(3);
        one.minute();
        one.step(0, 12, 0, 0, 0, 7);
        one.act(0);
        one.trust(0, 0, false);
        one.warm(0, 9);
        HatchHouse other = new HatchHouse();
        boolean isNew = other.count(0) == 0 && other.count(1) == 0 && other.count(2) == 0 && other.count(3) == 0
            && other.answer() == 0 && other.acted(0) == 0 && other.reason(0, 0) == 0 && other.tank(0, 1) == 0;
        other.row(4, 1);
        other.put(0, 0, 6);
        if (isNew && one.get(0, 0) == 5 && one.count(0) == 1 && one.count(1) == 3 && one.answer() == 7) return;
        System.out.println("1: two objects are not apart");
        System.exit(1);
    }

    private static void whatIsNoThing() {
        Script.run("a number is BAD until its THING is made", "get 0 0 = BAD; told 0 0 = BAD; row 4 1 = 0; get 0 0 = 0; "
            + "get 1 0 = BAD",
            "told 1 0 = BAD; grid 4 1 1 = 2; get 1 0 = 0; tray 3 0 = BAD; told 3 0 = BAD; card = 3; told 3 0 = 4");
        Script.run("BAD is told ahead of all else", ZOO, "put 6 9 1 = BAD; get -2 9 = BAD; tray 6 9 = BAD; setTray -1 9 6 = BAD",
            "setTray 6 9 -1 = BAD; setTray 0 9 6 = BAD; cell 6 9 9 = BAD; raise 6 9 9 1 no = BAD; move -1 0 6 0 0 = BAD",
            "move 2 0 6 0 0 = BAD; move 6 0 -1 0 0 = BAD; putIn -1 0 6 = BAD; putIn 0 0 6 = BAD; putIn 6 9 -1 = BAD",
            "letOut 6 9 0 = BAD; pass -1 0 6 0 0 = BAD; pass 6 0 -1 0 0 = BAD; pass 0 0 6 0 0 = BAD; mesh 6 9 = BAD",
            "match -1 6 = BAD; match 6 -1 = BAD; kin -1 6 no = BAD; kin 0 6 no = BAD; kin 6 -1 no = BAD; kin 6 0 no = BAD",
            "says 6 9 0 = BAD; field 6 11 = BAD; setField 6 8 6 = BAD; as 6 8 = BAD; copy 6 yes = BAD");
    }

    private static void whatIsNone() {
        wants("put @ 0 1", "R");
        wants("put @ 9 1", "R");
        wants("get @ 0", "R");
        wants("get @ -1", "R");
        wants("tray @ 0", "G");
        wants("tray @ 9", "G");
        wants("setTray @ 0 0", "G");
        wants("setTray @ 9 5", "G");
        wants("setTray @ 0 -1", "G");
        wants("cell @ 0 0", "G");
        wants("cell @ -1 9", "G");
        wants("raise @ 0 0 1 yes", "G");
        wants("raise @ 9 9 1 no", "G");
        wants("move @ 0 0 0 1", "R");
        wants("move 0 0 @ 0 1", "R");
        wants("move @ -1 0 9 9", "R");
        wants("putIn @ 0 4", "N");
        wants("putIn @ 9 5", "N");
        wants("letOut @ 0 0", "N");
        wants("letOut @ 9 7", "N");
        wants("pass 3 0 @ 0 0", "N");
        wants("pass @ 9 3 9 -1", "N");
        wants("mesh @ 0", "N");
        wants("mesh @ 9", "N");
        wants("says @ 0 1", "F");
        wants("says @ 3 0", "F");
        wants("grams @ 0", "F");
        wants("field @ 0", "C");
        wants("field @ 10", "C");
        wants("setField @ 0 1", "C");
        wants("setField @ 8 4", "C");
        wants("setField @ 10 0", "C");
        wants("along @", "C");
        wants("as @ 0", "F");
        wants("as @ 3", "F");
        wants("kin @ 4 no", "F");
        wants("kin 4 @ yes", "F");
        Script.run("the other THING may be NONE, but of no other SORT", ZOO, ofOthers("setTray 2 0 @", "R"),
            ofOthers("setTray 2 9 @", "R"));
        Script.run("the other THING may be NONE, but of no other SORT", ZOO, ofOthers("putIn 3 0 @", "F"),
            ofOthers("putIn 3 9 @", "F"));
        Script.run("a parent may be NONE, but of no other SORT", ZOO, ofOthers("fish 1 1 @ -1", "F"), ofOthers("fish 1 1 4 @",
            "F"));
        Script.run("what a CARD is BOUND to", ZOO, ofOthers("setField 5 8 @", "C"), ofOthers("setField 5 9 @", "C"),
            ofOthers("setField 5 10 @", "F"));
        Script.run("copy(), match(), told() of all SORTS but NONE", ZOO, "copy -1 no = NULL; copy -1 yes = NULL; "
            + "match -1 0 = NULL",
            "match 0 -1 = NULL; match -1 -1 = NULL; 6 * told -1 # = NULL; 6 * match # # = 1; 6 * told # 5 = 0");
    }

    private static void lanes() {
        Script.run("3, 4: a truth is whether BITS are not 0", "row 0 1 = 0; get 0 0 = 0; put 0 0 1 = 1; get 0 0 = 1; "
            + "put 0 0 0 = 1",
            "get 0 0 = 0; put 0 0 2 = 1; get 0 0 = 1; put 0 0 -1 = 1; get 0 0 = 1; put 0 0 0x100000000 = 1; get 0 0 = 1; "
                + "put 0 0 0 = 1",
            "put 0 0 0x8000000000000000 = 1; get 0 0 = 1");
        Script.run("3, 4: a byte is the lowest 8", "row 1 1 = 0; get 0 0 = 0; put 0 0 127 = 1; get 0 0 = 127; put 0 0 128 = 1; "
            + "get 0 0 = -128",
            "put 0 0 255 = 1; get 0 0 = -1; put 0 0 256 = 1; get 0 0 = 0; put 0 0 -128 = 1; get 0 0 = -128; put 0 0 -129 = 1; "
                + "get 0 0 = 127",
            "put 0 0 0x7fffffffffffff80 = 1; get 0 0 = -128");
        Script.run("3, 4: a short is the lowest 16", "row 2 1 = 0; get 0 0 = 0; put 0 0 32767 = 1; get 0 0 = 32767; "
            + "put 0 0 32768 = 1",
            "get 0 0 = -32768; put 0 0 65535 = 1; get 0 0 = -1; put 0 0 65536 = 1; get 0 0 = 0; put 0 0 -32769 = 1; "
                + "get 0 0 = 32767");
        Script.run("3, 4: a char is the lowest 16", "row 3 1 = 0; get 0 0 = 0; put 0 0 32768 = 1; get 0 0 = 32768; "
            + "put 0 0 65535 = 1",
            "get 0 0 = 65535; put 0 0 65536 = 1; get 0 0 = 0; put 0 0 -1 = 1; get 0 0 = 65535; put 0 0 -65536 = 1; get 0 0 = 0");
        Script.run("3, 4: an int is the lowest 32", "row 4 1 = 0; get 0 0 = 0; put 0 0 max = 1; get 0 0 = max; "
            + "put 0 0 2147483648 = 1",
            "get 0 0 = min; put 0 0 4294967295 = 1; get 0 0 = -1; put 0 0 4294967296 = 1; get 0 0 = 0; put 0 0 -2147483649 = 1; "
                + "get 0 0 = max");
        Script.run("3, 4: a long is all 64", "row 5 1 = 0; get 0 0 = 0; put 0 0 0x7fffffffffffffff = 1; "
            + "get 0 0 = 0x7fffffffffffffff",
            "put 0 0 0x8000000000000000 = 1; get 0 0 = 0x8000000000000000; put 0 0 2147483648 = 1; get 0 0 = 2147483648");
        Script.run("3, 4: a float is the lowest 32, told as an int", "row 6 1 = 0; get 0 0 = 0; put 0 0 0x80000000 = 1; "
            + "get 0 0 = min",
            "put 0 0 0xffff0000ffffffff = 1; get 0 0 = 0x7fc00000; put 0 0 0x1234567800000001 = 1; get 0 0 = 1",
            "put 0 0 0x7f7fffff = 1; get 0 0 = 0x7f7fffff; put 0 0 0x7f800000 = 1; get 0 0 = 0x7f800000; put 0 0 0x7f800001 = 1",
            "get 0 0 = 0x7fc00000; put 0 0 0xff7fffff = 1; get 0 0 = -8388609; put 0 0 0xff800000 = 1; get 0 0 = -8388608",
            "put 0 0 0xff800001 = 1; get 0 0 = 0x7fc00000; put 0 0 0x7fffffff = 1; get 0 0 = 0x7fc00000; "
                + "put 0 0 0x7ff0000000000001 = 1",
            "get 0 0 = 1");
        Script.run("3, 4: a double is all 64", "row 7 1 = 0; get 0 0 = 0; put 0 0 0x8000000000000000 = 1; "
            + "get 0 0 = 0x8000000000000000",
            "put 0 0 0x7fefffffffffffff = 1; get 0 0 = 0x7fefffffffffffff; put 0 0 0x7ff0000000000000 = 1; get 0 0 = inf",
            "put 0 0 0x7ff0000000000001 = 1; get 0 0 = NaN; put 0 0 0xfff0000000000000 = 1; get 0 0 = -inf",
            "put 0 0 0xfff0000000000001 = 1; get 0 0 = NaN; put 0 0 -1 = 1; get 0 0 = NaN; put 0 0 0x7fffffffffffffff = 1; "
                + "get 0 0 = NaN",
            "put 0 0 0x7fc00000 = 1; get 0 0 = 0x7fc00000; put 0 0 1 = 1; get 0 0 = 1");
        Script.run("22: fields are of LANES 0 to 7", "card = 0; 8 * setField 0 # -1 = 1",
            "field 0 0 = 1; field 0 1 = -1; field 0 2 = -1",
            "field 0 3 = 65535; field 0 4 = -1; field 0 5 = -1; field 0 6 = 0x7fc00000; field 0 7 = NaN",
            "8 * setField 0 # 0x8000000000000000 = 1", "field 0 0 = 1; field 0 1 = 0; field 0 2 = 0; field 0 3 = 0; "
                + "field 0 4 = 0",
            "field 0 5 = 0x8000000000000000; field 0 6 = 0; field 0 7 = -0.0d");
    }

    private static void raised() {
        Script.run("9: a byte's sum wraps", "grid 1 1 1 = 1; raise 1 0 0 127 yes = 127; raise 1 0 0 1 yes = -128; "
            + "raise 1 0 0 -1 yes = 127",
            "raise 1 0 0 1 no = 127; cell 1 0 0 = -128; raise 1 0 0 256 yes = -128; raise 1 0 0 0x7fffffffffffffff yes = 127");
        Script.run("9: a short's sum wraps", "grid 2 1 1 = 1; raise 1 0 0 32767 yes = 32767; raise 1 0 0 1 yes = -32768",
            "raise 1 0 0 -1 yes = 32767; raise 1 0 0 65536 yes = 32767; raise 1 0 0 0x8000000000000000 no = 32767; "
                + "cell 1 0 0 = 32767");
        Script.run("9: a char's sum wraps", "grid 3 1 1 = 1; raise 1 0 0 -1 yes = 65535; raise 1 0 0 1 yes = 0; "
            + "raise 1 0 0 65535 yes = 65535",
            "raise 1 0 0 65537 yes = 0; raise 1 0 0 32768 yes = 32768");
        Script.run("9: an int's sum wraps", "grid 4 1 1 = 1; raise 1 0 0 max yes = max; raise 1 0 0 1 yes = min; "
            + "raise 1 0 0 -1 yes = max",
            "raise 1 0 0 4294967296 yes = max; raise 1 0 0 2147483649 yes = 0; raise 1 0 0 0x7fffffffffffffff yes = -1");
        Script.run("9: a long's sum wraps", "grid 5 1 1 = 1; raise 1 0 0 0x7fffffffffffffff no = 0; "
            + "raise 1 0 0 1 no = 0x7fffffffffffffff",
            "cell 1 0 0 = 0x8000000000000000; raise 1 0 0 -1 yes = 0x7fffffffffffffff; raise 1 0 0 0x8000000000000000 yes = -1");
        Script.run("9: truths are not RAISED", "grid 0 2 1 = 2; put 0 0 1 = 1; raise 2 0 0 1 yes = CAST; "
            + "raise 2 0 0 0 no = CAST; get 0 0 = 1");
        Script.run("9: CAST of truths is behind the others", "grid 0 2 1 = 2; setTray 2 1 -1 = 1; raise 2 2 0 1 yes = INDEX",
            "raise 2 -1 0 1 yes = INDEX; raise 2 1 0 1 yes = NULL; raise 2 1 9 1 yes = NULL; raise 2 0 1 1 yes = INDEX",
            "raise 2 0 -1 1 yes = INDEX; raise 2 0 0 1 yes = CAST");
        // 2^53 and 1 is no double; the float's sum is a double first, then cut to a float.
        Script.run("9: v as a double, as the machine casts it", "grid 7 1 1 = 1; "
            + "raise 1 0 0 9007199254740993 yes = 9007199254740992.0d",
            "put 0 0 0.0d = 1; raise 1 0 0 9007199254740995 yes = 9007199254740996.0d; put 0 0 0.0d = 1",
            "raise 1 0 0 0x7fffffffffffffff yes = 9223372036854775808.0d; put 0 0 0.0d = 1",
            "raise 1 0 0 0x8000000000000000 yes = -9223372036854775808.0d; put 0 0 1.7976931348623157E308d = 1",
            "raise 1 0 0 0x7fffffffffffffff yes = 1.7976931348623157E308d; put 0 0 -0.0d = 1; raise 1 0 0 0 yes = 0.0d");
        Script.run("9: a float's sum", "grid 6 1 1 = 1; raise 1 0 0 16777217 yes = 16777216.0f; raise 1 0 0 1 yes = 16777216.0f",
            "raise 1 0 0 3 yes = 16777220.0f; put 0 0 1.0f = 1; raise 1 0 0 16777216 yes = 16777216.0f; put 0 0 1.5f = 1",
            "raise 1 0 0 16777216 yes = 16777218.0f; put 0 0 3.4028235E38f = 1; "
                + "raise 1 0 0 0x7fffffffffffffff no = 3.4028235E38f",
            "get 0 0 = 3.4028235E38f; put 0 0 0x7f800000 = 1; raise 1 0 0 0x8000000000000000 yes = 0x7f800000; "
                + "put 0 0 0xff800000 = 1",
            "raise 1 0 0 0x7fffffffffffffff yes = -8388608; put 0 0 0x7fc00000 = 1; raise 1 0 0 1 no = 0x7fc00000; "
                + "get 0 0 = 0x7fc00000");
        Script.run("9: no number stays none", "grid 7 1 1 = 1; put 0 0 NaN = 1; raise 1 0 0 1 yes = NaN; raise 1 0 0 0 no = NaN; "
            + "put 0 0 inf = 1",
            "raise 1 0 0 0x8000000000000000 yes = inf; put 0 0 -inf = 1; raise 1 0 0 0x7fffffffffffffff yes = -inf");
    }

    private static void rows() {
        Script.run("2: LANES are 0 to 7", "row -1 1 = BAD; row 0 1 = 0; row 7 1 = 1; row 8 1 = BAD; row max 1 = BAD; "
            + "row min 1 = BAD");
        Script.run("2: 0 to 16 ITEMS", "row 4 0 = 0; told 0 2 = 0; row 4 1 = 1; row 4 15 = 2; row 4 16 = 3; told 3 2 = 16; "
            + "row 4 17 = BAD",
            "row 4 max = BAD; count 0 = 4");
        Script.run("2: SIZE: n below 0", "row 4 -1 = SIZE; row 0 min = SIZE; row 7 -2 = SIZE; count 0 = 0");
        Script.run("2: BAD ahead of SIZE", "row -1 -1 = BAD; row 8 -1 = BAD; row 8 min = BAD; row -1 17 = BAD");
        Script.run("2: ITEMS are 0 at first", "8 * row # 16 = #", "8 * get # 0 = 0; 8 * get # 15 = 0; 8 * told # 1 = #");
        Script.run("3: INDEX at both ends", "row 4 16 = 0; put 0 0 5 = 1; put 0 15 6 = 1; put 0 16 7 = INDEX; put 0 -1 7 = INDEX",
            "put 0 max 7 = INDEX; put 0 min 7 = INDEX; get 0 0 = 5; get 0 15 = 6; get 0 1 = 0; get 0 14 = 0");
        Script.run("3: INDEX of no ITEMS", "row 4 0 = 0; put 0 0 1 = INDEX; put 0 -1 1 = INDEX; get 0 0 = INDEX; row 4 1 = 1; "
            + "put 1 0 1 = 1",
            "put 1 1 1 = INDEX");
        Script.run("4: INDEX at both ends", "row 5 3 = 0; 3 * put 0 # -# = 1",
            "get 0 2 = -2; get 0 3 = INDEX; get 0 -1 = INDEX; get 0 max = INDEX",
            "get 0 min = INDEX");
        Script.run("3: other ROWS stay as they are", "row 4 2 = 0; row 4 2 = 1; put 0 1 5 = 1; get 1 1 = 0; get 0 0 = 0");
    }

    private static void grids() {
        Script.run("5: LANES are 0 to 7", "grid -1 1 1 = BAD; grid 8 1 1 = BAD; grid 0 1 1 = 1; grid 7 1 1 = 3; told 0 1 = 0; "
            + "told 2 1 = 7",
            "told 3 1 = 7");
        Script.run("5: 0 to 8 TRAYS", "grid 4 0 1 = 0; told 0 2 = 0; tray 0 0 = INDEX; grid 4 8 1 = 9; told 9 2 = 8; "
            + "tray 9 0 = 1; tray 9 7 = 8",
            "tray 9 8 = INDEX; grid 4 9 1 = BAD; grid 4 max 1 = BAD; count 0 = 10");
        Script.run("5: each of -1 .. 16 ITEMS", "grid 4 1 0 = 1; told 0 2 = 0; grid 4 1 16 = 3; told 2 2 = 16; "
            + "grid 4 1 17 = BAD; grid 4 1 -2 = BAD",
            "grid 4 1 max = BAD; grid 4 1 min = BAD; grid 4 0 17 = BAD; grid 4 0 -2 = BAD; count 0 = 4");
        Script.run("5: all pulled out", "grid 4 8 -1 = 0; 8 * tray 0 # = NONE", "count 0 = 1; grid 4 0 -1 = 1; tray 1 0 = INDEX");
        Script.run("5: TRAYS are numbered ahead of the GRID", "grid 2 3 4 = 3; 3 * tray 3 # = #",
            "3 * told # 0 = 0; 3 * told # 1 = 2; 3 * told # 2 = 4",
            "told 3 0 = 1; told 3 1 = 2");
        Script.run("5: SIZE: a below 0", "grid 4 -1 1 = SIZE; grid 4 min -1 = SIZE; grid 4 -1 -1 = SIZE; grid 4 min 16 = SIZE; "
            + "count 0 = 0");
        Script.run("5: BAD ahead of SIZE", "grid 8 -1 1 = BAD; grid -1 -1 1 = BAD; grid 4 -1 17 = BAD; grid 4 -1 -2 = BAD");
    }

    private static void trays() {
        Script.run("6: INDEX at both ends", "grid 4 2 1 = 2; tray 2 0 = 0; tray 2 1 = 1; tray 2 2 = INDEX; tray 2 -1 = INDEX; "
            + "tray 2 max = INDEX",
            "tray 2 min = INDEX");
        Script.run("7: INDEX at both ends", "grid 4 2 1 = 2; setTray 2 0 1 = 1; setTray 2 1 0 = 1; setTray 2 2 0 = INDEX; "
            + "setTray 2 -1 0 = INDEX",
            "setTray 2 2 -1 = INDEX; setTray 2 min -1 = INDEX; setTray 2 max 0 = INDEX; tray 2 0 = 1; tray 2 1 = 0");
        Script.run("7: STORE: of another LANE", "8 * row # 1 = #", "grid 0 1 -1 = 8; setTray 8 0 0 = 1; setTray 8 0 1 = STORE; "
            + "setTray 8 0 7 = STORE",
            "grid 7 1 -1 = 9; setTray 9 0 6 = STORE; setTray 9 0 7 = 1; grid 2 1 -1 = 10; setTray 10 0 3 = STORE; "
                + "setTray 10 0 2 = 1",
            "tray 8 0 = 0; tray 9 0 = 7; tray 10 0 = 2");
        Script.run("7: of that LANE with any size", "grid 4 1 2 = 1; row 4 0 = 2; row 4 16 = 3; setTray 1 0 2 = 1; "
            + "cell 1 0 0 = INDEX; setTray 1 0 3 = 1",
            "cell 1 0 15 = 0; cell 1 0 16 = INDEX");
        Script.run("7: CAST of the other THING ahead of INDEX", "grid 4 1 1 = 1; card = 2; row 5 1 = 3; setTray 1 9 2 = CAST; "
            + "setTray 1 9 1 = CAST",
            "setTray 1 9 3 = INDEX; setTray 1 -1 3 = INDEX; setTray 1 0 3 = STORE");
        Script.run("7: CAST of the GRID ahead of the other's", "row 4 1 = 0; card = 1; setTray 0 0 1 = CAST; "
            + "setTray -1 0 1 = NULL; setTray 1 9 1 = CAST");
        Script.run("7: a ROW is a TRAY in several places", "grid 4 2 2 = 2; grid 4 1 -1 = 3; setTray 2 1 0 = 1; "
            + "setTray 3 0 0 = 1; put 0 1 6 = 1",
            "cell 2 0 1 = 6; cell 2 1 1 = 6; cell 3 0 1 = 6; raise 2 1 1 1 yes = 7; get 0 1 = 7; setTray 2 0 -1 = 1; "
                + "tray 2 1 = 0",
            "tray 3 0 = 0; setTray 2 0 -1 = 1; tray 2 0 = NONE");
        Script.run("8: INDEX, NULL: pulled out, INDEX", "grid 4 3 2 = 3; setTray 3 1 -1 = 1; cell 3 3 0 = INDEX; "
            + "cell 3 -1 0 = INDEX; cell 3 3 9 = INDEX",
            "cell 3 max 0 = INDEX; cell 3 min 0 = INDEX; cell 3 1 0 = NULL; cell 3 1 9 = NULL; cell 3 1 -1 = NULL; "
                + "cell 3 0 2 = INDEX",
            "cell 3 0 -1 = INDEX; cell 3 2 1 = 0; cell 3 2 2 = INDEX; cell 3 2 max = INDEX; cell 3 2 min = INDEX");
        Script.run("9: FAILURES likewise", "grid 4 3 2 = 3; setTray 3 1 -1 = 1; raise 3 3 0 1 yes = INDEX; "
            + "raise 3 -1 9 1 no = INDEX",
            "raise 3 1 9 1 yes = NULL; raise 3 0 2 1 yes = INDEX; raise 3 0 -1 1 no = INDEX; raise 3 2 1 1 no = 0; "
                + "raise 3 2 1 1 no = 1",
            "raise 3 2 1 1 yes = 3; raise 3 2 max 1 yes = INDEX; raise 3 min 0 1 yes = INDEX");
    }

    private static void moves() {
        String two = "row 4 4 = 0; row 4 3 = 1; 4 * put 0 # #+1 = 1";
        Script.run("10: n ITEMS, no more", two, "move 0 1 1 0 2 = 1; get 1 0 = 2; get 1 1 = 3; get 1 2 = 0; 4 * get 0 # = #+1");
        Script.run("10: as they were, over themselves upward", two, "move 0 0 0 1 3 = 1; get 0 0 = 1; get 0 1 = 1; get 0 2 = 2; "
            + "get 0 3 = 3");
        Script.run("10: as they were, over themselves downward", two, "move 0 1 0 0 3 = 1; get 0 0 = 2; get 0 1 = 3; "
            + "get 0 2 = 4; get 0 3 = 4");
        Script.run("10: onto themselves", two, "move 0 0 0 0 4 = 1; 4 * get 0 # = #+1");
        Script.run("10: none of them", two, "move 0 0 1 0 0 = 1; move 0 4 1 3 0 = 1; move 0 5 1 0 0 = INDEX; "
            + "move 0 0 1 4 0 = INDEX; 3 * get 1 # = 0");
        Script.run("10: to the last one, and one beyond", two, "move 0 1 1 0 3 = 1; move 0 2 1 0 3 = INDEX; "
            + "move 0 0 1 0 4 = INDEX; move 0 0 1 1 3 = INDEX",
            "move 0 3 1 2 1 = 1; move 0 4 1 0 1 = INDEX; move 0 0 1 3 1 = INDEX; move 0 0 0 0 5 = INDEX");
        Script.run("10: INDEX below 0", two, "move 0 0 1 0 -1 = INDEX; move 0 -1 1 0 1 = INDEX; move 0 0 1 -1 1 = INDEX; "
            + "move 0 0 1 0 min = INDEX",
            "move 0 min 1 0 1 = INDEX; move 0 0 1 min 1 = INDEX; move 0 -1 1 0 0 = INDEX; move 0 0 1 -1 0 = INDEX; "
                + "move 0 4 1 3 -1 = INDEX",
            "move 0 -1 1 -1 2 = INDEX");
        Script.run("10: INDEX where sums would wrap", two, "move 0 max 1 0 1 = INDEX; move 0 max 1 max max = INDEX; "
            + "move 0 1 1 0 max = INDEX",
            "move 0 0 1 max 1 = INDEX; move 0 min 1 min min = INDEX; move 0 max 1 max 0 = INDEX");
        Script.run("10: ROWS without ITEMS", "row 4 0 = 0; row 4 1 = 1; move 0 0 1 0 0 = 1; move 0 0 1 1 0 = 1; "
            + "move 0 0 1 0 1 = INDEX; move 1 0 0 0 1 = INDEX");
        Script.run("10: sixteen ITEMS", "row 6 16 = 0; row 6 16 = 1; put 0 0 1.5f = 1; put 0 15 2.5f = 1; move 0 0 1 0 16 = 1; "
            + "get 1 0 = 1.5f",
            "get 1 15 = 2.5f; move 0 0 1 0 17 = INDEX");
        Script.run("10: STORE ahead of INDEX", "row 4 1 = 0; row 5 1 = 1; move 0 0 1 0 1 = STORE; move 0 9 1 9 9 = STORE; "
            + "move 0 0 1 0 -1 = STORE",
            "move 0 0 1 0 0 = STORE");
        Script.run("10: unlike LANES of one size", "8 * row # 1 = #", "move 2 0 3 0 1 = STORE; move 4 0 6 0 1 = STORE; "
            + "move 5 0 7 0 1 = STORE; move 0 0 1 0 1 = STORE");
        Script.run("10: THINGS in their order, each NULL, then CAST", "row 4 1 = 0; card = 1; row 5 1 = 2; "
            + "move -1 0 1 0 1 = NULL; move 1 0 -1 0 1 = CAST",
            "move -1 0 -1 0 1 = NULL; move 0 0 -1 0 1 = NULL; move 0 0 1 0 1 = CAST; move 1 0 2 0 1 = CAST; "
                + "move 0 9 -1 9 9 = NULL");
    }

    private static void nets() {
        Script.run("11: KINDS are 0 to 7", "net -1 1 = BAD; net 8 1 = BAD; net max 1 = BAD; net min 1 = BAD; 8 * net # 1 = #",
            "8 * told # 1 = #");
        Script.run("11: 0 to 8 MESHES", "net 0 0 = 0; mesh 0 0 = INDEX; told 0 2 = 0; net 0 8 = 1; told 1 2 = 8; net 0 9 = BAD; "
            + "net 0 max = BAD; count 0 = 2");
        Script.run("11: SIZE: below 0", "net 0 -1 = SIZE; net 7 min = SIZE; net 8 -1 = BAD; net -1 min = BAD; count 0 = 0");
        Script.run("11: free at first", "net 3 8 = 0; 8 * mesh 0 # = NONE");
        Script.run("17: INDEX at both ends", "net 0 3 = 0; mesh 0 2 = NONE; mesh 0 3 = INDEX; mesh 0 -1 = INDEX; "
            + "mesh 0 max = INDEX; mesh 0 min = INDEX");
    }

    private static void fish() {
        Script.run("12: KINDS 1 to 4", "fish 0 1 -1 -1 = BAD; 4 * fish #+1 1 -1 -1 = #",
            "fish 5 1 -1 -1 = BAD; fish -1 1 -1 -1 = BAD; fish max 1 -1 -1 = BAD",
            "4 * told # 1 = #+1");
        Script.run("12: GRAMS of 0 or more", "fish 1 -1 -1 -1 = BAD; fish 1 min -1 -1 = BAD; fish 1 0 -1 -1 = 0; grams 0 0 = 0; "
            + "fish 1 max -1 -1 = 1; grams 1 0 = max");
        Script.run("12: parents, or none", "fish 1 1 -1 -1 = 0; fish 1 1 0 -1 = 1; fish 1 1 -1 1 = 2; fish 3 1 2 2 = 3; "
            + "told 0 3 = NONE; told 0 4 = NONE",
            "told 1 3 = 0; told 1 4 = NONE; told 2 3 = NONE; told 2 4 = 1; told 3 3 = 2; told 3 4 = 2");
        Script.run("12: it is not its own parent", "fish 1 1 0 -1 = BAD; fish 1 1 -1 0 = BAD; fish 1 1 -1 -1 = 0; "
            + "fish 1 1 1 -1 = BAD; fish 1 1 -1 -2 = BAD");
        Script.run("12: BAD ahead of CAST", "row 4 1 = 0; fish 1 1 0 -1 = CAST; fish 1 1 -1 0 = CAST; fish 1 1 0 1 = BAD; "
            + "fish 1 1 1 0 = BAD; fish 0 1 0 0 = BAD",
            "fish 1 -1 0 0 = BAD; fish 5 1 0 0 = BAD; count 0 = 1");
    }

    private static void meshes() {
        String stock = "fish 1 1 -1 -1 = 0; fish 3 1 -1 -1 = 1; net 1 2 = 2; net 0 1 = 3; row 4 1 = 4";
        Script.run("13: INDEX at both ends", stock, "putIn 2 0 0 = 1; putIn 2 1 0 = 1; putIn 2 2 0 = INDEX; "
            + "putIn 2 -1 0 = INDEX; putIn 2 max -1 = INDEX",
            "putIn 2 min -1 = INDEX; putIn 2 2 -1 = INDEX; mesh 2 0 = 0; mesh 2 1 = 0");
        Script.run("13: STORE, it stays as it was", stock, "putIn 2 0 0 = 1; putIn 2 0 1 = STORE; mesh 2 0 = 0; "
            + "putIn 2 1 1 = STORE; mesh 2 1 = NONE");
        Script.run("13: CAST ahead of INDEX ahead of STORE", stock, "putIn 2 9 4 = CAST; putIn 2 9 2 = CAST; "
            + "putIn 2 9 1 = INDEX; putIn 2 -1 1 = INDEX",
            "putIn 2 0 1 = STORE");
        Script.run("13: NULL, CAST of the NET first", stock, "putIn -1 0 4 = NULL; putIn 4 0 4 = CAST; putIn 0 0 4 = CAST; "
            + "putIn -1 9 -1 = NULL; putIn 4 9 -1 = CAST");
        Script.run("13: it stays in others, too", stock, "putIn 2 0 0 = 1; putIn 3 0 0 = 1; mesh 2 0 = 0; putIn 2 1 0 = 1; "
            + "mesh 2 0 = 0; putIn 2 0 -1 = 1",
            "mesh 2 0 = NONE; mesh 2 1 = 0; mesh 3 0 = 0; putIn 2 0 -1 = 1");
        Script.run("13: over another one", stock, "putIn 3 0 0 = 1; putIn 3 0 1 = 1; mesh 3 0 = 1");
        Script.run("13: in the last of 8", "fish 2 1 -1 -1 = 0; net 2 8 = 1; putIn 1 7 0 = 1; mesh 1 7 = 0; putIn 1 8 0 = INDEX; "
            + "net 2 0 = 2; putIn 2 0 0 = INDEX",
            "putIn 2 0 -1 = INDEX");
    }

    private static void letOut() {
        String stock = "fish 1 1 -1 -1 = 0; net 0 2 = 1; putIn 1 1 0 = 1";
        Script.run("14: KINDS are 0 to 7", stock, "letOut 1 1 -1 = BAD; letOut 1 1 8 = BAD; letOut 1 1 max = BAD; "
            + "letOut 1 9 8 = BAD; letOut -1 0 8 = BAD",
            "letOut 0 0 8 = BAD; letOut 1 0 -1 = BAD; letOut 1 1 7 = 0; putIn 1 1 0 = 1; letOut 1 1 0 = 0");
        Script.run("14: the MESH is free then", stock, "letOut 1 1 1 = 0; mesh 1 1 = NONE; letOut 1 1 1 = NULL; told 0 0 = 3");
        Script.run("14: INDEX at both ends", stock, "letOut 1 2 0 = INDEX; letOut 1 -1 0 = INDEX; letOut 1 max 3 = INDEX; "
            + "letOut 1 min 3 = INDEX");
        Script.run("14: NULL: it is free, ahead of CAST", stock, "letOut 1 0 0 = NULL; letOut 1 0 3 = NULL");
        Script.run("14: CAST: the FISH is not of it, and stays", stock, "letOut 1 1 2 = CAST; letOut 1 1 3 = CAST; "
            + "letOut 1 1 4 = CAST; letOut 1 1 6 = CAST; mesh 1 1 = 0",
            "letOut 1 1 5 = 0");
    }

    private static void passes() {
        String stock = "fish 1 1 -1 -1 = 0; fish 3 1 -1 -1 = 1; net 0 4 = 2; net 1 3 = 3; putIn 2 0 0 = 1; putIn 2 2 0 = 1; "
            + "putIn 2 3 1 = 1; ";
        Script.run("15: BAD: both are the same THING", stock, "pass 2 0 2 1 1 = BAD; pass 2 0 2 0 0 = BAD; pass 0 0 0 0 0 = BAD; "
            + "pass 3 9 3 9 9 = BAD; passed = 0");
        Script.run("15: NONE twice is NULL", stock, "pass -1 0 -1 0 0 = NULL; pass -1 9 -1 9 -1 = NULL");
        Script.run("15: NULL, CAST (each)", stock, "pass -1 0 0 0 0 = NULL; pass 0 0 -1 0 0 = CAST; pass 2 0 -1 0 0 = NULL; "
            + "pass 2 0 0 0 0 = CAST",
            "pass 0 0 2 0 0 = CAST; pass 0 9 1 9 9 = CAST; pass 2 9 -1 9 9 = NULL");
        Script.run("15: free ones, too", stock, "putIn 3 1 0 = 1; pass 2 0 3 0 2 = 2; passed = 2; mesh 3 0 = 0; mesh 3 1 = NONE; "
            + "mesh 3 2 = NONE; mesh 2 0 = NONE",
            "mesh 2 2 = 0");
        Script.run("15: none of them", stock, "pass 2 0 3 0 0 = 0; passed = 0; pass 2 4 3 3 0 = 0; pass 2 5 3 0 0 = INDEX; "
            + "pass 2 0 3 4 0 = INDEX");
        Script.run("15: INDEX: not so many", stock, "pass 2 0 3 0 3 = 3; pass 2 0 3 0 4 = INDEX; pass 2 2 3 0 3 = INDEX; "
            + "pass 2 0 3 1 3 = INDEX; pass 2 4 3 0 1 = INDEX",
            "pass 2 0 3 3 1 = INDEX; passed = 0; mesh 3 0 = 0; mesh 3 2 = 0");
        Script.run("15: INDEX: n below 0", stock, "pass 2 0 3 0 -1 = INDEX; pass 2 0 3 0 min = INDEX; pass 2 4 3 3 -1 = INDEX");
        Script.run("15: INDEX: places below 0, or far out", stock, "pass 2 -1 3 0 1 = INDEX; pass 2 0 3 -1 1 = INDEX; "
            + "pass 2 min 3 0 0 = INDEX",
            "pass 2 max 3 0 1 = INDEX; pass 2 max 3 max max = INDEX; pass 2 1 3 0 max = INDEX; pass 2 0 3 max 0 = INDEX; "
                + "mesh 2 0 = 0; mesh 2 2 = 0");
        Script.run("15: INDEX ahead of STORE", stock, "pass 2 3 3 0 2 = INDEX; pass 2 3 3 3 1 = INDEX; mesh 2 3 = 1; passed = 0");
        Script.run("15: STORE at the first: none is over", stock, "putIn 3 0 0 = 1; pass 2 3 3 0 1 = STORE; passed = 0; "
            + "mesh 2 3 = 1; mesh 3 0 = 0");
        Script.run("15: STORE at the third: two are over", stock, "putIn 3 1 0 = 1; putIn 3 2 0 = 1; pass 2 1 3 0 3 = STORE; "
            + "passed = 2; mesh 3 0 = NONE; mesh 3 1 = 0",
            "mesh 3 2 = 0; mesh 2 1 = NONE; mesh 2 2 = NONE; mesh 2 3 = 1; mesh 2 0 = 0");
        Script.run("15: those behind a STORE stay", "fish 1 1 -1 -1 = 0; fish 3 1 -1 -1 = 1; net 0 3 = 2; net 1 3 = 3; "
            + "putIn 2 0 0 = 1; putIn 2 1 1 = 1; putIn 2 2 0 = 1",
            "pass 2 0 3 0 3 = STORE; passed = 1; mesh 2 1 = 1; mesh 2 2 = 0; mesh 3 2 = NONE");
        Script.run("15: eight MESHES", "fish 4 1 -1 -1 = 0; net 4 8 = 1; net 6 8 = 2; putIn 1 0 0 = 1; putIn 1 7 0 = 1; "
            + "pass 1 0 2 0 8 = 8; passed = 8; mesh 2 7 = 0",
            "mesh 1 7 = NONE; pass 2 0 1 0 9 = INDEX");
        Script.run("16: of the latest that was not BAD", stock, "pass 2 0 3 0 1 = 1; pass 2 0 2 0 1 = BAD; passed = 1; "
            + "pass 2 0 5 0 1 = BAD; passed = 1; pass -2 0 3 0 1 = BAD",
            "passed = 1; pass -1 0 3 0 1 = NULL; passed = 0; pass 3 0 2 0 3 = 3; passed = 3; pass 0 0 3 0 1 = CAST; passed = 0");
        Script.run("16: 0 by a FAILURE but STORE", stock, "pass 2 0 3 0 2 = 2; pass 2 0 3 0 5 = INDEX; passed = 0; "
            + "pass 2 2 3 0 2 = STORE; passed = 1; passed = 1");
    }

    private static void kinds() {
        String four = "4 * fish #+1 1 -1 -1 = #";
        String[] of = {"11000101", "11100111", "10010100", "10011111"};
        StringBuilder as = new StringBuilder();
        StringBuilder nets = new StringBuilder("8 * net # 1 = #+4; ");
        for (int fish = 0; fish < 4; fish++) {
            for (int kind = 0; kind < 8; kind++) {
                boolean is = of[fish].charAt(kind) == '1';
                as.append("as " + fish + " " + kind + " = " + (is ? "1; " : "CAST; "));
                nets.append("putIn " + (4 + kind) + " 0 " + fish + " = " + (is ? "1; " : "STORE; "));
            }
        }
        Script.run("27: KINDS and FACES of FISH", four, as.toString());
        Script.run("13: WOVEN for KINDS and FACES", four, nets.toString());
        Script.run("27: BAD: KIND", four, "as 0 -1 = BAD; as 0 8 = BAD; as 0 max = BAD; as 0 min = BAD; as -1 8 = BAD; "
            + "as 0 7 = 1; as 0 0 = 1");
    }

    private static void members() {
        String four = "fish 1 100 -1 -1 = 0; fish 2 100 -1 -1 = 1; fish 3 100 -1 -1 = 2; fish 4 100 -1 -1 = 3; card = 4";
        Script.run("18: what is 0 to 4", four, "says 0 -1 1 = BAD; says 0 5 1 = BAD; says 0 max 1 = BAD; says 0 min 1 = BAD; "
            + "says -1 5 1 = BAD; says 4 -1 1 = BAD");
        Script.run("18: SHARE", four, "says 0 0 0 = 3; says 1 0 min = 4; says 2 0 max = 5; says 3 0 0 = 6");
        Script.run("18: RATE", four, "says 0 1 0 = 0; says 0 1 max = max; says 0 1 min = min; says 1 1 0 = 0; "
            + "says 1 1 max = 4294967294",
            "says 1 1 min = -4294967296; says 3 1 0 = 6; says 3 1 max = 2147483653; says 3 1 min = -2147483642; "
                + "says 3 1 -6 = 0 ! 0; says 2 1 1 = CAST");
        Script.run("18: APPETITE, cut", four, "says 0 2 0 = 0; says 0 2 3 = 0; says 0 2 4 = 1; says 0 2 -3 = 0; "
            + "says 0 2 -4 = -1; says 1 2 2 = 0; says 1 2 3 = 1",
            "says 2 2 1 = 0; says 2 2 2 = 1; says 2 2 -1 = 0; says 2 2 -2 = -1; says 0 2 max = 644245094; "
                + "says 1 2 max = 858993458",
            "says 2 2 min = -1073741824; says 1 2 min = -858993459");
        Script.run("18: SPLAKE's APPETITE is by its own SHARE, less 1", four,
            "says 3 2 0 = -1; says 3 2 1 = -1; says 3 2 2 = 0; says 3 2 -1 = -1; says 3 2 -2 = -2",
            "says 3 2 max = 1288490187; says 3 2 min = -1288490189");
        Script.run("18: EGGS, cut; ZERO", four, "says 1 3 0 = ZERO; says 3 3 0 = ZERO; says 1 3 1 = 100; says 1 3 100 = 1; "
            + "says 1 3 101 = 0; says 1 3 -1 = -100",
            "says 1 3 -3 = -33; says 1 3 -101 = 0; says 1 3 max = 0; says 1 3 min = 0; says 3 3 7 = 14; grams 1 max = 100; "
                + "says 1 3 -1 = -2147483647",
            "says 1 3 max = 1; says 1 3 min = 0; grams 1 0 = max; says 1 3 1 = 0; says 1 3 0 = ZERO");
        Script.run("18: CAST ahead of ZERO", four, "says 0 3 0 = CAST; says 2 3 0 = CAST; says 0 3 1 = CAST; says 2 3 1 = CAST");
        Script.run("18: PRICE", four, "says 0 4 0 = 0; says 0 4 7 = 700; says 0 4 -7 = -700; says 1 4 0 = 100; "
            + "says 1 4 7 = 1500; says 1 4 -1 = -100; says 2 4 1 = CAST",
            "says 3 4 0 = 600; says 3 4 -6 = 0 ! 0; says 3 4 -7 = -100");
        Script.run("18: all as longs", "fish 1 max -1 -1 = 0; fish 2 max -1 -1 = 1; fish 4 max -1 -1 = 2; "
            + "says 0 4 max = 4611686014132420609",
            "says 0 4 min = -4611686016279904256; says 1 4 max = 9223372028264841318; says 1 4 min = -9223372032559808412",
            "says 2 4 max = 4611686027017322491; says 2 4 min = -4611686003395002374");
        Script.run("18: no MEMBER, by KINDS", four, "says 0 0 1 = 3; says 0 1 1 = 1; says 0 2 9 = 2; says 0 3 1 = CAST; "
            + "says 0 4 1 = 100; says 1 3 1 = 100; says 2 0 1 = 5",
            "says 2 1 1 = CAST; says 2 2 9 = 4; says 2 3 1 = CAST; says 2 4 1 = CAST; says 3 1 1 = 7; says 3 2 9 = 4; "
                + "says 3 3 1 = 100; says 3 4 1 = 700");
    }

    private static void grams() {
        Script.run("19: 0 or more: what they were", "fish 3 9 -1 -1 = 0; grams 0 0 = 9; grams 0 max = 0; grams 0 -1 = BAD; "
            + "grams 0 min = BAD; grams 0 1 = max; grams 0 1 = 1");
        Script.run("19: BAD ahead of NULL, CAST", "card = 0; grams -1 -1 = BAD; grams 0 -1 = BAD; grams -1 0 = NULL; "
            + "grams 0 0 = CAST");
    }

    private static void cards() {
        Script.run("20: 0, NONE at first", "card = 0; 8 * field 0 # = 0", "field 0 8 = NONE; field 0 9 = NONE; "
            + "field 0 10 = NONE; told 0 1 = NONE; told 0 2 = 0");
        Script.run("21: fields 0 to 10", "card = 0; field 0 -1 = BAD; field 0 11 = BAD; field 0 max = BAD; field 0 min = BAD; "
            + "field -1 -1 = BAD; field -1 11 = BAD; field 0 10 = NONE",
            "field 0 0 = 0");
        Script.run("21: BAD ahead of CAST", "row 4 1 = 0; field 0 -1 = BAD; field 0 11 = BAD; field 0 0 = CAST");
        Script.run("22: fields 0 to 10", "card = 0; setField 0 -1 0 = BAD; setField 0 11 0 = BAD; setField 0 max 0 = BAD; "
            + "setField -1 11 0 = BAD; setField 0 0 1 = 1; setField 0 10 -1 = 1");
        Script.run("22: BAD: v of 8 to 10", "card = 0; card = 1; setField 0 8 2 = BAD; setField 0 9 2 = BAD; "
            + "setField 0 10 2 = BAD; setField 0 8 -2 = BAD; setField 0 10 -2 = BAD",
            "setField 0 8 4294967296 = BAD; setField 0 9 4294967297 = BAD; setField 0 8 0x8000000000000000 = BAD; "
                + "setField 0 9 0x7fffffffffffffff = BAD",
            "setField 0 8 0xffffffff00000000 = BAD; setField 0 8 4294967295 = BAD; setField 0 7 4294967296 = 1; "
                + "field 0 8 = NONE; field 0 9 = NONE");
        Script.run("22: BAD ahead of NULL, CAST", "row 4 1 = 0; setField -1 8 1 = BAD; setField 0 8 1 = BAD; "
            + "setField -1 8 0 = NULL; setField 0 8 0 = CAST; setField -1 11 0 = BAD");
        Script.run("22: CAST: no CARD (8, 9), no FISH (10)", "card = 0; fish 1 1 -1 -1 = 1; net 0 1 = 2; setField 0 8 1 = CAST; "
            + "setField 0 9 1 = CAST; setField 0 10 0 = CAST",
            "setField 0 8 2 = CAST; setField 0 9 2 = CAST; setField 0 10 2 = CAST; setField 0 8 0 = 1; setField 0 9 0 = 1; "
                + "setField 0 10 1 = 1; field 0 8 = 0; field 0 9 = 0",
            "field 0 10 = 1; setField 0 8 1 = CAST; field 0 8 = 0; setField 0 9 -1 = 1; field 0 9 = NONE");
        Script.run("22: numbers of THINGS are nothing to 0 to 7", "card = 0; 8 * setField 0 # 99 = 1",
            "field 0 1 = 99; field 0 5 = 99; field 0 7 = 99");
    }

    private static void chains() {
        Script.run("23: one CARD", "card = 0; along 0 = 1");
        Script.run("23: it is met at once", "card = 0; setField 0 8 0 = 1; along 0 = -101");
        Script.run("23: one that was met further on", "card = 0; card = 1; card = 2; setField 0 8 1 = 1; setField 1 8 2 = 1; "
            + "along 0 = 3; setField 2 8 2 = 1; along 0 = -103",
            "setField 2 8 1 = 1; along 0 = -103; setField 2 8 0 = 1; along 0 = -103; along 2 = -103; setField 2 8 -1 = 1; "
                + "along 0 = 3; along 2 = 1");
        Script.run("23: along NEXT alone", "card = 0; card = 1; setField 0 9 1 = 1; along 0 = 1; setField 0 9 0 = 1; "
            + "along 0 = 1");
        Script.run("23: 120 CARDS to the end", "120 * card = #", "119 * setField # 8 #+1 = 1",
            "along 0 = 120; along 1 = 119; along 119 = 1");
        Script.run("23: 120 CARDS were met", "120 * card = #", "119 * setField # 8 #+1 = 1",
            "setField 119 8 0 = 1; along 0 = -220; along 119 = -220");
    }

    private static void copies() {
        Script.run("24: ITEMS of their own", "row 7 16 = 0; put 0 15 NaN = 1; put 0 0 -0.0d = 1; copy 0 no = 1; get 1 15 = NaN; "
            + "get 1 0 = -0.0d; put 0 0 1.0d = 1",
            "get 1 0 = -0.0d; put 1 15 2.0d = 1; get 0 15 = NaN; told 1 1 = 7; told 1 2 = 16; copy 0 yes = 2; put 2 1 3.0d = 1; "
                + "get 0 1 = 0");
        Script.run("24: of nothing", "row 3 0 = 0; copy 0 no = 1; told 1 2 = 0; told 1 1 = 3; net 5 0 = 2; copy 2 yes = 3; "
            + "told 3 1 = 5; told 3 2 = 0; grid 2 0 3 = 4",
            "copy 4 yes = 5; told 5 0 = 1; told 5 1 = 2; told 5 2 = 0; copy 4 no = 6");
        Script.run("24: CARDS are BOUND alike", "card = 0; card = 1; fish 1 1 -1 -1 = 2; setField 0 8 0 = 1; setField 0 9 1 = 1; "
            + "setField 0 10 2 = 1; setField 0 7 NaN = 1; copy 0 yes = 3",
            "field 3 8 = 0; field 3 9 = 1; field 3 10 = 2; field 3 7 = NaN; setField 3 8 3 = 1; field 0 8 = 0; "
                + "setField 3 0 1 = 1; field 0 0 = 0");
        Script.run("24: the KIND, GRAMS, parents", "fish 1 7 -1 -1 = 0; fish 4 max 0 0 = 1; copy 1 yes = 2; told 2 0 = 3; "
            + "told 2 1 = 4; told 2 3 = 0; told 2 4 = 0; grams 2 1 = max; grams 1 2 = max",
            "grams 2 3 = 1");
        Script.run("24: NETS have the same FISH", "fish 2 1 -1 -1 = 0; net 6 8 = 1; putIn 1 7 0 = 1; copy 1 yes = 2; "
            + "count 0 = 3; mesh 2 7 = 0; mesh 2 0 = NONE; told 2 1 = 6; putIn 1 7 -1 = 1; mesh 2 7 = 0");
        Script.run("24: GRIDS have the same TRAYS", "grid 4 2 1 = 2; setTray 2 1 -1 = 1; copy 2 no = 3; tray 3 0 = 0; "
            + "tray 3 1 = NONE; count 0 = 4; put 0 0 5 = 1; cell 3 0 0 = 5",
            "setTray 3 0 -1 = 1; tray 2 0 = 0");
        Script.run("24: far, one for each place, numbered ahead", "grid 4 3 1 = 3; put 0 0 6 = 1; setTray 3 1 0 = 1; "
            + "setTray 3 2 -1 = 1; copy 3 yes = 6; tray 6 0 = 4; tray 6 1 = 5; tray 6 2 = NONE",
            "cell 6 0 0 = 6; cell 6 1 0 = 6; put 4 0 7 = 1; get 5 0 = 6; get 0 0 = 6; count 0 = 7; tray 3 0 = 0");
        Script.run("24: far, all pulled out", "grid 4 8 -1 = 0; copy 0 yes = 1; count 0 = 2; tray 1 7 = NONE");
        Script.run("24: far, eight TRAYS", "grid 4 8 16 = 8; put 7 15 9 = 1; copy 8 yes = 17; 8 * tray 17 # = #+9",
            "get 16 15 = 9");
    }

    private static void matches() {
        Script.run("25: ITEMS by BITS", "row 7 2 = 0; row 7 2 = 1; match 0 1 = 1; put 0 1 -0.0d = 1; match 0 1 = 0; "
            + "put 1 1 -0.0d = 1; match 0 1 = 1; put 0 0 NaN = 1; match 0 1 = 0",
            "put 1 0 0xfff8000000000123 = 1; match 0 1 = 1; match 1 0 = 1");
        Script.run("25: of one SORT, LANE, size", "row 4 2 = 0; row 5 2 = 1; row 4 3 = 2; row 4 1 = 3; row 4 2 = 4; "
            + "match 0 1 = 0; match 0 2 = 0; match 0 3 = 0; match 0 4 = 1; match 2 0 = 0");
        Script.run("25: of nothing", "row 4 0 = 0; row 4 0 = 1; row 5 0 = 2; grid 4 0 1 = 3; grid 4 0 1 = 4; net 0 0 = 5; "
            + "net 0 0 = 6; net 1 0 = 7; match 0 1 = 1; match 0 2 = 0; match 3 4 = 1",
            "match 0 3 = 0; match 5 6 = 1; match 5 7 = 0; match 3 5 = 0; match 5 0 = 0");
        Script.run("25: TRAYS that match", "grid 4 2 1 = 2; grid 4 2 1 = 5; match 2 5 = 1; put 1 0 3 = 1; match 2 5 = 0; "
            + "put 4 0 3 = 1; match 2 5 = 1; setTray 2 0 4 = 1; match 2 5 = 0",
            "setTray 5 0 1 = 1; match 2 5 = 1");
        Script.run("25: TRAYS that are none, both", "grid 4 1 -1 = 0; grid 4 1 -1 = 1; match 0 1 = 1; row 4 0 = 2; "
            + "setTray 0 0 2 = 1; match 0 1 = 0; match 1 0 = 0; setTray 1 0 2 = 1; match 0 1 = 1",
            "row 4 1 = 3; setTray 1 0 3 = 1; match 0 1 = 0");
        Script.run("25: GRIDS of one LANE, size", "grid 4 1 -1 = 0; grid 5 1 -1 = 1; grid 4 2 -1 = 2; match 0 1 = 0; "
            + "match 0 2 = 0; match 2 0 = 0");
        Script.run("25: NETS of one KIND with the same FISH", "fish 2 1 -1 -1 = 0; copy 0 no = 1; net 1 1 = 2; net 1 1 = 3; "
            + "net 2 1 = 4; match 2 3 = 1; match 2 4 = 0; putIn 2 0 0 = 1; match 2 3 = 0",
            "putIn 3 0 1 = 1; match 2 3 = 0; putIn 3 0 0 = 1; match 2 3 = 1; net 1 2 = 5; match 2 5 = 0");
        Script.run("25: FISH: the same alone", "fish 1 1 -1 -1 = 0; copy 0 no = 1; match 0 0 = 1; match 0 1 = 0; match 1 0 = 0; "
            + "card = 2; match 0 2 = 0");
        Script.run("25: CARDS by each field", "card = 0; card = 1; match 0 1 = 1; setField 0 7 -0.0d = 1; match 0 1 = 0; "
            + "setField 1 7 -0.0d = 1; match 0 1 = 1; setField 0 0 1 = 1; match 0 1 = 0",
            "setField 1 0 2 = 1; match 0 1 = 1; setField 0 8 1 = 1; setField 1 8 0 = 1; match 0 1 = 0; setField 1 8 1 = 1; "
                + "match 0 1 = 1; setField 0 9 0 = 1; match 0 1 = 0",
            "setField 1 9 0 = 1; match 0 1 = 1; fish 1 1 -1 -1 = 2; setField 1 10 2 = 1; match 0 1 = 0; setField 0 10 2 = 1; "
                + "match 0 1 = 1");
        Script.run("25: in the last place", "row 4 16 = 0; row 4 16 = 1; put 0 15 1 = 1; match 0 1 = 0; net 0 8 = 2; "
            + "net 0 8 = 3; fish 1 1 -1 -1 = 4; putIn 3 7 4 = 1; match 2 3 = 0; grid 4 8 -1 = 5",
            "grid 4 8 -1 = 6; setTray 6 7 0 = 1; match 5 6 = 0; setTray 5 7 1 = 1; match 5 6 = 0; put 1 15 1 = 1; match 5 6 = 1");
    }

    private static void told() {
        Script.run("26: what is 0 to 5", ZOO, "told 0 -1 = BAD; told 0 6 = BAD; told 0 max = BAD; told 0 min = BAD; "
            + "told -1 6 = BAD; told -1 -1 = BAD; told 6 0 = BAD; told 6 6 = BAD",
            "told -1 0 = NULL; told -1 5 = NULL");
        Script.run("26: BAD: no THING, whatever is asked", ZOO, "6 * told 6 # = BAD; 6 * told -2 # = BAD; 6 * told 119 # = BAD",
            "6 * told 120 # = BAD; 6 * told max # = BAD; 6 * told min # = BAD; 6 * told -1 # = NULL");
        Script.run("26: of each SORT", ZOO, "told 0 0 = 0; told 2 0 = 1; told 3 0 = 2; told 4 0 = 3; told 5 0 = 4; told 0 1 = 4; "
            + "told 2 1 = 4; told 3 1 = 0; told 4 1 = 1; told 5 1 = -1",
            "told 0 2 = 3; told 2 2 = 1; told 3 2 = 2; told 4 2 = 0; told 5 2 = 0; 6 * told # 3 = -1; 6 * told # 4 = -1; "
                + "6 * told # 5 = 0");
        Script.run("26: MOTHER of a CARD is none of a FISH", "card = 0; setField 0 9 0 = 1; told 0 3 = -1; told 0 4 = -1");
    }

    private static void full() {
        Script.run("2: FULL is 120 THINGS", "119 * row 4 0 = #", "row 4 0 = 119; row 4 0 = FULL; row 8 0 = BAD; row 4 17 = BAD; "
            + "row 4 -1 = FULL; row 4 min = FULL; count 0 = 120; told 119 0 = 0",
            "told 120 0 = BAD; put 119 0 0 = INDEX; put 120 0 0 = BAD");
        Script.run("5: FULL: not all have room", "111 * card = #", "grid 4 9 1 = BAD; grid 4 8 1 = 119; count 0 = 120; "
            + "tray 119 0 = 111; grid 4 0 1 = FULL; grid 4 0 -1 = FULL; grid 4 8 -1 = FULL",
            "grid 8 0 1 = BAD; grid 4 0 17 = BAD; grid 4 9 -1 = BAD; grid 4 -1 -1 = FULL; grid 4 -1 17 = BAD");
        Script.run("5: FULL: one has no room", "112 * card = #", "grid 4 8 1 = FULL; grid 4 8 0 = FULL; count 0 = 112; "
            + "grid 4 -1 8 = SIZE; grid 4 7 0 = 119");
        Script.run("5: FULL: the GRID has no room", "112 * card = #", "grid 4 8 0 = FULL; grid 4 8 -1 = 112; grid 4 6 0 = 119; "
            + "grid 4 0 -1 = FULL");
        Script.run("5: all pulled out at the last place", "119 * card = #", "grid 4 1 0 = FULL; grid 4 8 16 = FULL; "
            + "grid 4 8 -1 = 119; grid 4 8 -1 = FULL");
        Script.run("5: no TRAYS at the last place", "119 * card = #", "grid 4 0 16 = 119; count 0 = 120");
        Script.run("11: FULL", "119 * card = #", "net 0 0 = 119; net 0 0 = FULL; net 0 -1 = FULL; net 8 0 = BAD; net 0 9 = BAD; "
            + "net -1 -1 = BAD");
        Script.run("12: FULL, ahead of CAST", "119 * card = #", "fish 1 1 0 -1 = CAST; fish 1 1 -1 0 = CAST; "
            + "fish 1 1 -1 -1 = 119; fish 1 1 -1 -1 = FULL; fish 1 1 0 -1 = FULL; fish 1 1 -1 0 = FULL",
            "fish 1 1 119 119 = FULL; fish 0 1 0 0 = BAD; fish 1 -1 0 0 = BAD; fish 1 1 120 0 = BAD; fish 1 1 0 120 = BAD; "
                + "fish 1 1 -2 -1 = BAD");
        Script.run("20: FULL", "119 * row 4 0 = #", "card = 119; card = FULL; card = FULL; count 0 = 120");
        Script.run("24: NULL ahead of FULL", "120 * card = #", "copy -1 no = NULL; copy -1 yes = NULL; copy 0 no = FULL; "
            + "copy 0 yes = FULL; copy 119 no = FULL; copy 120 no = BAD; copy -2 yes = BAD");
        Script.run("24: the last place", "119 * card = #", "copy 118 yes = 119; copy 118 no = FULL");
        Script.run("24: FULL: not all TRAYS have room", "108 * card = #", "grid 4 5 0 = 113; copy 113 yes = 119; "
            + "tray 119 0 = 114; tray 119 4 = 118; copy 113 no = FULL");
        Script.run("24: FULL: one TRAY has none", "109 * card = #", "grid 4 5 0 = 114; copy 114 yes = FULL; count 0 = 115; "
            + "setTray 114 2 -1 = 1; copy 114 yes = 119; tray 119 2 = NONE");
        Script.run("24: a TRAY in two places takes two", "115 * card = #", "grid 4 2 0 = 117; setTray 117 1 115 = 1; "
            + "copy 117 yes = FULL; copy 117 no = 118; copy 115 yes = 119");
    }
}

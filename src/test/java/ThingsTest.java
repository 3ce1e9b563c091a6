/** Promises 1 to 27: things. */
public final class ThingsTest {
    public static void main(String[] args) {
        newObject();
        rows();
        grids();
        raising();
        moving();
        nets();
        letting();
        passing();
        fish();
        cards();
        copies();
        matches();
        telling();
        full();
        Script.end();
    }

    private static void newObject() {
        Script.run("1 new", "count 0 = 0; count 1 = 0; count 2 = 0; count 3 = 0; count 4 = 0; count 5 = 0; count 6 = 0; "
            + "failed = 0",
            "passed = 0; answer = 0; trace 0 = 0", "6 * acted # = 0", "6 * tank # 0 = 0; 6 * tank # 1 = 0; 6 * tank # 3 = -1",
            "6 * tank # 9 = -1; 6 * tank # 10 = -1; 6 * setting # = 0", "16 * reason 0 # = 0", "put 0 0 1 = -1; value 0 = 0 ! 1");
    }

    private static void rows() {
        Script.run("2 row", "row 0 0 = 0; row 7 16 = 1; row 4 3 = 2; told 1 0 = 0; told 1 1 = 7; told 1 2 = 16; told 0 2 = 0",
            "row -1 3 = -1; row 8 3 = -1; row 4 17 = -1; row 8 -1 = -1; failed = -1; row 4 -1 = -14; failed = 4; row 4 min = -14",
            "row 4 max = -1",
            "count 0 = 3; get 2 2 = 0");
        Script.run("3 put", "row 0 2 = 0; put 0 0 2 = 1; get 0 0 = 1; put 0 0 0x100000000 = 1; get 0 0 = 1; put 0 0 0 = 1",
            "get 0 0 = 0",
            "row 1 2 = 1; put 1 0 200 = 1; get 1 0 = -56; put 1 0 127 = 1; get 1 0 = 127; put 1 1 0x100 = 1; get 1 1 = 0",
            "row 2 1 = 2; put 2 0 0x18000 = 1; get 2 0 = -32768; row 3 1 = 3; put 3 0 -1 = 1; get 3 0 = 65535",
            "put 3 0 0x1fffe = 1; get 3 0 = 65534",
            "row 4 1 = 4; put 4 0 0x180000001 = 1; get 4 0 = -2147483647; row 5 1 = 5; put 5 0 -77777777777 = 1",
            "get 5 0 = -77777777777");
        Script.run("3 put reals", "row 6 3 = 0; put 0 0 1.5f = 1; get 0 0 = 1.5f; put 0 0 -1.5f = 1; get 0 0 = -1.5f",
            "put 0 0 -0.0f = 1; get 0 0 = min",
            "put 0 1 0x7f800001 = 1; get 0 1 = 0x7fc00000; put 0 1 0xffc12345 = 1; get 0 1 = 0x7fc00000; put 0 1 0x7f800000 = 1",
            "get 0 1 = 0x7f800000",
            "put 0 2 0x123ff800000 = 1; get 0 2 = -8388608; put 0 2 0xff800000 = 1; get 0 2 = -8388608",
            "row 7 2 = 1; put 1 0 -2.5d = 1; get 1 0 = -2.5d; put 1 1 0x7ff0000000000001 = 1; get 1 1 = NaN; put 1 1 -1 = 1",
            "get 1 1 = NaN; put 1 1 -inf = 1; get 1 1 = -inf");
        Script.run("3 put wrong", "row 4 2 = 0; card = 1; put 0 2 1 = -12; put 0 -1 1 = -12; put 1 0 1 = -13; put -1 0 1 = -11",
            "put -2 0 1 = -1; put 2 0 1 = -1; failed = -1",
            "put 1 9 1 = -13; put -1 9 9 = -11; failed = 1; get 0 0 = 0");
        Script.run("4 get", "row 4 2 = 0; card = 1; put 0 1 9 = 1; get 0 1 = 9 ! 0; get 0 2 = 0 ! 2; get 0 -1 = 0 ! 2",
            "get 1 0 = 0 ! 3; get -1 0 = 0 ! 1; get 2 0 = 0 ! -1; get max 0 = 0 ! -1; get min 0 = 0 ! -1");
    }

    private static void grids() {
        Script.run("5 grid", "grid 4 2 3 = 2; told 2 0 = 1; told 2 1 = 4; told 2 2 = 2; told 0 2 = 3; told 1 0 = 0; told 1 1 = 4",
            "tray 2 0 = 0; tray 2 1 = 1",
            "grid 0 8 -1 = 3; tray 3 7 = -1; failed = 0; grid 5 0 16 = 4; told 4 2 = 0; grid 6 1 0 = 6; told 5 2 = 0",
            "grid 8 1 1 = -1; grid -1 1 1 = -1; grid 4 9 1 = -1; grid 4 1 17 = -1; grid 4 1 -2 = -1; grid 4 -1 1 = -14",
            "grid 4 min -1 = -14; grid 4 -1 17 = -1; count 0 = 7");
        Script.run("6 tray", "grid 4 2 1 = 2; tray 2 1 = 1; failed = 0; tray 2 2 = -12; tray 2 -1 = -12; tray 0 0 = -13",
            "tray -1 0 = -11; tray 3 0 = -1; failed = -1; tray -2 0 = -1");
        Script.run("7 setTray", "grid 4 2 2 = 2; row 4 5 = 3; row 5 2 = 4; card = 5",
            "setTray 2 0 3 = 1; tray 2 0 = 3; setTray 2 1 3 = 1; tray 2 1 = 3; put 3 0 8 = 1; cell 2 0 0 = 8; cell 2 1 0 = 8",
            "setTray 2 0 -1 = 1; tray 2 0 = -1",
            "setTray 2 0 4 = -15; failed = 5; setTray 2 2 3 = -12; setTray 2 2 4 = -12; setTray 2 -1 -1 = -12",
            "setTray 2 9 5 = -13; setTray 3 0 3 = -13; setTray 3 0 5 = -13; setTray -1 0 3 = -11",
            "setTray -1 0 5 = -11; setTray 6 0 3 = -1; setTray 2 0 6 = -1; setTray -1 0 -2 = -1; tray 2 0 = -1; tray 2 1 = 3");
        Script.run("8 cell", "grid 4 3 2 = 3; setTray 3 1 -1 = 1; put 2 1 -6 = 1; cell 3 2 1 = -6 ! 0; cell 3 2 2 = 0 ! 2",
            "cell 3 2 -1 = 0 ! 2; cell 3 3 0 = 0 ! 2; cell 3 -1 0 = 0 ! 2",
            "cell 3 1 0 = 0 ! 1; cell 3 1 9 = 0 ! 1; cell 0 0 0 = 0 ! 3; cell -1 0 0 = 0 ! 1; cell 4 0 0 = 0 ! -1");
    }

    private static void raising() {
        Script.run("9 raise", "grid 4 2 2 = 2; raise 2 0 1 5 no = 0 ! 0; raise 2 0 1 5 yes = 10; get 0 1 = 10",
            "raise 2 0 1 0x7fffffff yes = -2147483639; raise 2 0 1 0x100000000 no = -2147483639; get 0 1 = -2147483639",
            "raise 2 2 0 1 no = 0 ! 2; raise 2 0 2 1 no = 0 ! 2; raise 0 0 0 1 no = 0 ! 3; raise -1 0 0 1 no = 0 ! 1",
            "raise 3 0 0 1 no = 0 ! -1; setTray 2 1 -1 = 1; raise 2 1 7 1 no = 0 ! 1");
        Script.run("9 raise truths", "grid 0 2 1 = 2; raise 2 0 0 1 yes = 0 ! 3; raise 2 0 1 1 yes = 0 ! 2",
            "raise 2 2 0 1 yes = 0 ! 2; setTray 2 0 -1 = 1; raise 2 0 0 1 yes = 0 ! 1; cell 2 1 0 = 0");
        Script.run("9 raise lanes", "grid 1 1 1 = 1; raise 1 0 0 300 yes = 44; raise 1 0 0 -200 yes = 100; grid 2 1 1 = 3",
            "raise 3 0 0 40000 yes = -25536; grid 3 1 1 = 5; raise 5 0 0 -1 yes = 65535; raise 5 0 0 2 yes = 1",
            "grid 5 1 1 = 7; raise 7 0 0 0x7fffffffffffffff yes = 0x7fffffffffffffff; raise 7 0 0 1 yes = 0x8000000000000000");
        Script.run("9 raise doubles", "grid 7 1 1 = 1; put 0 0 0.1d = 1; raise 1 0 0 3 yes = 3.1d; put 0 0 -0.0d = 1",
            "raise 1 0 0 0 no = -0.0d; get 0 0 = 0.0d; put 0 0 1.0d = 1; raise 1 0 0 -1 yes = 0.0d",
            "put 0 0 0.0d = 1; raise 1 0 0 0x7fffffffffffffff yes = 9.223372036854775807E18d; put 0 0 0.0d = 1",
            "raise 1 0 0 9007199254740993 yes = 9007199254740992.0d",
            "put 0 0 inf = 1; raise 1 0 0 -5 yes = inf; put 0 0 -inf = 1; raise 1 0 0 5 yes = -inf; put 0 0 NaN = 1",
            "raise 1 0 0 5 yes = NaN; put 0 0 1.7976931348623157E308d = 1; raise 1 0 0 99 yes = 1.7976931348623157E308d",
            "put 0 0 4.9E-324d = 1; raise 1 0 0 0 yes = 4.9E-324d; put 0 0 2.2250738585072014E-308d = 1",
            "raise 1 0 0 0 yes = 2.2250738585072014E-308d; put 0 0 -2.2250738585072009E-308d = 1",
            "raise 1 0 0 0 yes = -2.2250738585072009E-308d; put 0 0 -1.5E200d = 1; raise 1 0 0 7 yes = -1.5E200d");
        // As floats 16777217 would be 16777216 ahead of the sum already; as doubles 16777216.0 and 3 is 16777219, a tie.
        Script.run("9 raise floats", "grid 6 1 1 = 1; put 0 0 0.5f = 1; raise 1 0 0 16777217 yes = 16777218.0f",
            "put 0 0 16777216.0f = 1; raise 1 0 0 3 yes = 16777220.0f; put 0 0 16777216.0f = 1; raise 1 0 0 1 yes = 16777216.0f",
            "put 0 0 -0.0f = 1; raise 1 0 0 0 yes = 0; put 0 0 1.4E-45f = 1; raise 1 0 0 0 yes = 1.4E-45f",
            "put 0 0 -1.1754942E-38f = 1; raise 1 0 0 0 yes = -1.1754942E-38f; put 0 0 1.17549435E-38f = 1",
            "raise 1 0 0 0 yes = 1.17549435E-38f",
            "put 0 0 0x7f800000 = 1; raise 1 0 0 1 yes = 0x7f800000; put 0 0 0x7fc00000 = 1; raise 1 0 0 1 yes = 0x7fc00000",
            "put 0 0 3.4028235E38f = 1; raise 1 0 0 0x7fffffffffffffff yes = 3.4028235E38f; put 0 0 0.0f = 1",
            "raise 1 0 0 0x8000000000000000 yes = -9.223372E18f",
            "put 0 0 -0.1f = 1; raise 1 0 0 -7 yes = -7.1f; put 0 0 3.7252903E-9f = 1; raise 1 0 0 16777217 yes = 16777218.0f",
            "put 0 0 -3.7252903E-9f = 1; raise 1 0 0 16777219 yes = 16777218.0f; put 0 0 -0.99999994f = 1",
            "raise 1 0 0 1 yes = 5.9604645E-8f");
    }

    private static void moving() {
        Script.run("10 move", "row 4 4 = 0; row 4 2 = 1; row 5 4 = 2; card = 3; 4 * put 0 # 1# = 1; move 0 2 1 0 2 = 1",
            "get 1 0 = 12; get 1 1 = 13; get 0 2 = 12",
            "move 0 0 0 1 3 = 1; get 0 0 = 10; get 0 1 = 10; get 0 2 = 11; get 0 3 = 12; move 0 1 0 0 3 = 1; get 0 0 = 10",
            "get 0 1 = 11; get 0 2 = 12; get 0 3 = 12",
            "move 0 4 1 2 0 = 1; move 0 5 1 0 0 = -12; move 0 0 1 3 0 = -12; move 0 0 1 1 2 = -12; move 0 -1 1 0 1 = -12",
            "move 0 0 1 -1 1 = -12; move 0 0 1 0 -1 = -12; move 0 max 1 0 max = -12; move 0 1 1 0 max = -12",
            "move 0 0 2 0 1 = -15; move 0 9 2 0 1 = -15; move 3 0 -1 0 1 = -13; move -1 0 3 0 1 = -11; move 0 0 -1 0 1 = -11",
            "move 0 0 3 0 1 = -13; move 0 0 4 0 1 = -1; move -1 0 4 0 1 = -1; move -2 0 0 0 1 = -1; failed = -1; get 1 0 = 12");
        Script.run("10 move none", "row 4 0 = 0; row 4 0 = 1; move 0 0 1 0 0 = 1; move 0 0 1 0 1 = -12");
    }

    private static void nets() {
        Script.run("11 net", "net 0 0 = 0; net 7 8 = 1; told 1 0 = 2; told 1 1 = 7; told 1 2 = 8; mesh 1 7 = -1; failed = 0",
            "mesh 0 0 = -12; net -1 1 = -1; net 8 1 = -1; net 1 9 = -1; net 8 -1 = -1; net 1 -1 = -14; net 1 min = -14",
            "failed = 4; count 0 = 2");
        Script.run("12 fish", "fish 1 5 -1 -1 = 0; fish 2 0 0 -1 = 1; fish 4 max -1 1 = 2; told 2 0 = 3; told 2 1 = 4",
            "told 2 3 = -1; told 2 4 = 1; told 1 3 = 0; told 1 4 = -1; row 4 1 = 3",
            "fish 0 1 -1 -1 = -1; fish 5 1 -1 -1 = -1; fish 1 -1 -1 -1 = -1; fish 1 1 4 -1 = -1; fish 1 1 -1 -2 = -1",
            "fish 1 1 3 4 = -1; fish 1 1 3 -1 = -13; fish 1 1 0 3 = -13; failed = 3; count 0 = 4; fish 3 1 2 2 = 4");
        Script.run("13 putIn", "fish 1 1 -1 -1 = 0; fish 2 1 -1 -1 = 1; fish 3 1 -1 -1 = 2; fish 4 1 -1 -1 = 3; net 0 2 = 4",
            "net 1 2 = 5; net 2 2 = 6; net 3 2 = 7; net 4 2 = 8; net 5 2 = 9; net 6 2 = 10; net 7 2 = 11",
            "putIn 4 0 0 = 1; putIn 5 0 0 = 1; putIn 6 0 0 = -15; putIn 7 0 0 = -15; putIn 8 0 0 = -15; putIn 9 0 0 = 1",
            "putIn 10 0 0 = -15; putIn 11 0 0 = 1",
            "putIn 4 1 1 = 1; putIn 5 1 1 = 1; putIn 6 1 1 = 1; putIn 7 1 1 = -15; putIn 8 1 1 = -15; putIn 9 1 1 = 1",
            "putIn 10 1 1 = 1; putIn 11 1 1 = 1",
            "putIn 4 0 2 = 1; putIn 5 0 2 = -15; putIn 6 0 2 = -15; putIn 7 0 2 = 1; putIn 8 0 2 = -15; putIn 9 0 2 = 1",
            "putIn 10 0 2 = -15; putIn 11 0 2 = -15",
            "putIn 4 0 3 = 1; putIn 5 0 3 = -15; putIn 6 0 3 = -15; putIn 7 0 3 = 1; putIn 8 0 3 = 1; putIn 9 0 3 = 1",
            "putIn 10 0 3 = 1; putIn 11 0 3 = 1; mesh 4 0 = 3; mesh 5 0 = 0; mesh 7 0 = 3",
            "putIn 4 0 -1 = 1; mesh 4 0 = -1; mesh 7 0 = 3; putIn 4 2 0 = -12; putIn 5 2 2 = -12; putIn 4 -1 -1 = -12",
            "putIn 4 9 4 = -13; putIn 0 0 4 = -13; putIn -1 0 4 = -11; putIn -1 0 12 = -1; putIn 4 0 -2 = -1; putIn 12 0 0 = -1",
            "failed = -1");
        Script.run("17 mesh", "fish 1 1 -1 -1 = 0; net 1 2 = 1; putIn 1 1 0 = 1; mesh 1 1 = 0; mesh 1 0 = -1; failed = 0",
            "mesh 1 2 = -12; mesh 1 -1 = -12; mesh 0 0 = -13; mesh -1 0 = -11; mesh 2 0 = -1");
    }

    private static void letting() {
        Script.run("14 letOut", "fish 1 1 -1 -1 = 0; fish 4 1 -1 -1 = 1; net 0 3 = 2; putIn 2 0 0 = 1; putIn 2 1 1 = 1",
            "putIn 2 2 1 = 1",
            "letOut 2 0 2 = -13; letOut 2 0 3 = -13; letOut 2 0 4 = -13; letOut 2 0 6 = -13; mesh 2 0 = 0; letOut 2 0 5 = 0",
            "mesh 2 0 = -1; letOut 2 0 0 = -11; letOut 2 0 2 = -11",
            "letOut 2 1 1 = -13; letOut 2 1 6 = 1; mesh 2 1 = -1; mesh 2 2 = 1; letOut 2 2 0 = 1; letOut 2 3 0 = -12",
            "letOut 2 -1 0 = -12; letOut 0 0 0 = -13; letOut -1 0 0 = -11; letOut 2 0 8 = -1; letOut -1 0 -1 = -1",
            "letOut 3 0 0 = -1; failed = -1");
    }

    private static void passing() {
        String stocked = "fish 1 1 -1 -1 = 0; fish 2 1 -1 -1 = 1; fish 3 1 -1 -1 = 2; net 0 4 = 3; net 1 3 = 4; putIn 3 0 0 = 1; "
            + "putIn 3 2 1 = 1; putIn 3 3 2 = 1; putIn 4 0 0 = 1; putIn 4 1 0 = 1; putIn 4 2 0 = 1";
        Script.run("15 pass", stocked, "pass 3 0 4 0 3 = 3; failed = 0; passed = 3; failed = 0; mesh 4 0 = 0; mesh 4 1 = -1",
            "mesh 4 2 = 1; mesh 3 0 = -1; mesh 3 1 = -1; mesh 3 2 = -1; mesh 3 3 = 2");
        Script.run("15 pass store", stocked, "pass 3 2 4 1 2 = -15; failed = 5; passed = 1; mesh 3 2 = -1; mesh 4 1 = 1",
            "mesh 3 3 = 2; mesh 4 2 = 0; pass 3 3 4 0 1 = -15; passed = 0; mesh 4 0 = 0");
        Script.run("15 pass wrong", stocked, "pass 3 0 4 0 1 = 1; pass 3 0 3 1 1 = -1; pass 0 0 0 0 0 = -1; passed = 1",
            "pass 3 0 5 0 1 = -1; pass -2 0 4 0 1 = -1; passed = 1; pass -1 0 -1 0 0 = -11; passed = 0",
            "pass 3 0 4 0 0 = 0; pass 3 4 4 3 0 = 0; pass 3 5 4 0 0 = -12; pass 3 0 4 4 0 = -12; pass 3 0 4 0 4 = -12",
            "pass 3 2 4 0 3 = -12; pass 3 0 4 2 2 = -12; pass 3 0 4 0 -1 = -12; pass 3 -1 4 0 1 = -12; pass 3 0 4 -1 1 = -12",
            "pass 3 max 4 0 max = -12",
            "pass 0 0 4 0 1 = -13; pass 3 0 0 0 1 = -13; pass 3 0 -1 0 1 = -11; pass -1 0 0 0 1 = -11; pass 0 0 -1 0 1 = -13",
            "failed = 3; mesh 4 1 = 0");
        Script.run("16 passed", stocked, "passed = 0; pass 4 0 3 1 2 = 2; passed = 2; pass 3 0 3 0 1 = -1; passed = 2",
            "pass 4 0 3 0 9 = -12; passed = 0; pass 4 2 3 0 1 = 1; passed = 1; pass 0 0 3 0 1 = -13; passed = 0");
    }

    private static void fish() {
        String four = "fish 1 100 -1 -1 = 0; fish 2 200 -1 -1 = 1; fish 3 300 -1 -1 = 2; fish 4 405 -1 -1 = 3; card = 4";
        Script.run("18 says", four, "says 0 0 9 = 3; says 1 0 9 = 4; says 2 0 9 = 5; says 3 0 9 = 6; says 0 1 7 = 7",
            "says 1 1 7 = 14; says 2 1 7 = 0 ! 3; says 3 1 7 = 13; says 1 1 max = 4294967294; says 0 1 min = min",
            "says 0 2 15 = 4; says 0 2 -15 = -4; says 1 2 15 = 6; says 2 2 15 = 7; says 3 2 15 = 8; says 3 2 -1 = -1",
            "says 3 2 0 = -1; says 2 2 max = 1073741823",
            "says 0 3 1 = 0 ! 3; says 2 3 1 = 0 ! 3; says 1 3 1 = 200; says 1 3 3 = 66; says 1 3 -3 = -66; says 3 3 4 = 101",
            "says 3 3 0 = 0 ! 6; says 1 3 0 = 0 ! 6; says 0 3 0 = 0 ! 3; says 3 3 500 = 0 ! 0",
            "says 0 4 3 = 300; says 1 4 3 = 1300; says 2 4 3 = 0 ! 3; says 3 4 2 = 3240; says 3 4 -8 = -810; says 0 4 0 = 0 ! 0",
            "says 4 0 0 = 0 ! 3; says -1 0 0 = 0 ! 1; says 5 0 0 = 0 ! -1; says 0 -1 0 = 0 ! -1; says 0 5 0 = 0 ! -1",
            "says -1 5 0 = 0 ! -1");
        Script.run("18 says far out", "fish 2 max -1 -1 = 0; says 0 4 min = -9223372032559808412",
            "says 0 4 max = 9223372028264841318; fish 4 max -1 -1 = 1; says 1 4 max = 4611686027017322491");
        Script.run("19 grams", four, "grams 0 7 = 100; grams 0 0 = 7; grams 0 max = 0; grams 0 -1 = -1; grams 4 1 = -13",
            "grams -1 1 = -11; grams -1 -1 = -1; grams 5 1 = -1; grams 0 1 = max; says 0 4 5 = 5");
        Script.run("27 as", four, "as 0 0 = 1; as 0 1 = 1; as 0 2 = -13; as 0 3 = -13; as 0 4 = -13; as 0 5 = 1; as 0 6 = -13",
            "as 0 7 = 1", "as 1 0 = 1; as 1 1 = 1; as 1 2 = 1; as 1 3 = -13; as 1 4 = -13; as 1 5 = 1; as 1 6 = 1; as 1 7 = 1",
            "as 2 0 = 1; as 2 1 = -13; as 2 2 = -13; as 2 3 = 1; as 2 4 = -13; as 2 5 = 1; as 2 6 = -13; as 2 7 = -13",
            "as 3 0 = 1; as 3 1 = -13; as 3 2 = -13; as 3 3 = 1; as 3 4 = 1; as 3 5 = 1; as 3 6 = 1; as 3 7 = 1",
            "as 0 8 = -1; as 0 -1 = -1; as -1 0 = -11; as -1 8 = -1; as 4 0 = -13; as 5 0 = -1; failed = -1");
    }

    private static void cards() {
        Script.run("20 card", "card = 0; told 0 0 = 4; told 0 1 = -1; told 0 2 = 0; 8 * field 0 # = 0; field 0 8 = -1 ! 0",
            "field 0 9 = -1; field 0 10 = -1 ! 0; card = 1");
        Script.run("21 field", "card = 0; row 4 1 = 1; setField 0 3 7 = 1; field 0 3 = 7; field 0 11 = 0 ! -1",
            "field 0 -1 = 0 ! -1; field 1 0 = 0 ! 3; field -1 0 = 0 ! 1; field -1 11 = 0 ! -1; field 2 0 = 0 ! -1");
        Script.run("22 setField", "card = 0; card = 1; fish 1 1 -1 -1 = 2; setField 0 0 -5 = 1; field 0 0 = 1",
            "setField 0 1 -129 = 1; field 0 1 = 127; setField 0 2 65535 = 1; field 0 2 = -1; setField 0 3 -1 = 1",
            "field 0 3 = 65535",
            "setField 0 4 0x80000000 = 1; field 0 4 = min; setField 0 5 0x80000000 = 1; field 0 5 = 2147483648",
            "setField 0 6 0xffffffff = 1; field 0 6 = 0x7fc00000; setField 0 7 0x7ff0000000000001 = 1; field 0 7 = NaN",
            "setField 0 8 1 = 1; field 0 8 = 1; setField 0 9 0 = 1; field 0 9 = 0; setField 0 10 2 = 1; field 0 10 = 2",
            "setField 0 8 -1 = 1; field 0 8 = -1; setField 0 10 -1 = 1; field 0 10 = -1",
            "setField 0 8 2 = -13; setField 0 9 2 = -13; setField 0 10 1 = -13; setField 0 8 3 = -1; setField 0 8 -2 = -1",
            "setField 0 8 0x100000000 = -1; setField 0 10 0xffffffff00000002 = -1; setField -1 8 3 = -1; setField -1 8 2 = -11",
            "setField 2 8 2 = -13; setField 2 0 1 = -13",
            "setField 0 11 0 = -1; setField 0 -1 0 = -1; setField -1 0 0 = -11; setField 3 0 0 = -1; failed = -1; field 0 9 = 0");
        Script.run("23 along", "card = 0; along 0 = 1; setField 0 8 0 = 1; along 0 = -101; failed = 0; card = 1; card = 2",
            "setField 1 8 2 = 1; along 1 = 2; setField 2 8 0 = 1; along 1 = -103; along 2 = -102; setField 2 9 1 = 1",
            "setField 0 8 -1 = 1; along 1 = 3; along 1 = 3",
            "row 4 1 = 3; along 3 = -13; along -1 = -11; along 4 = -1; failed = -1");
        Script.run("23 along all", "120 * card = #", "119 * setField # 8 119 = 1", "along 0 = 2; along 119 = 1");
        Script.run("23 along a long chain", "120 * card = #", "119 * setField # 8 #+1 = 1",
            "along 0 = 120; setField 119 8 60 = 1; along 0 = -220; along 60 = -160",
            "setField 119 8 0 = 1; along 7 = -220");
    }

    private static void copies() {
        Script.run("24 copy", "row 4 2 = 0; put 0 1 5 = 1; copy 0 no = 1; get 1 1 = 5; put 1 1 6 = 1; get 0 1 = 5; told 1 1 = 4",
            "told 1 2 = 2; copy 0 yes = 2",
            "card = 3; setField 3 8 3 = 1; setField 3 5 9 = 1; copy 3 yes = 4; field 4 8 = 3; field 4 5 = 9; setField 4 5 1 = 1",
            "field 3 5 = 9",
            "fish 2 50 -1 -1 = 5; fish 4 60 5 -1 = 6; copy 6 no = 7; told 7 1 = 4; told 7 3 = 5; told 7 4 = -1; grams 7 1 = 60",
            "grams 6 2 = 60",
            "net 2 2 = 8; putIn 8 1 5 = 1; copy 8 yes = 9; mesh 9 1 = 5; mesh 9 0 = -1; told 9 1 = 2; putIn 9 1 -1 = 1",
            "mesh 8 1 = 5; putIn 9 0 6 = -15",
            "copy -1 no = -11; copy 10 no = -1; copy -2 yes = -1; failed = -1; count 0 = 10");
        Script.run("24 copy grid", "grid 4 3 2 = 3; setTray 3 1 0 = 1; setTray 3 2 -1 = 1; copy 3 no = 4; tray 4 0 = 0",
            "tray 4 1 = 0; tray 4 2 = -1; setTray 4 0 1 = 1; tray 3 0 = 0",
            "put 0 0 7 = 1; copy 3 yes = 7; tray 7 0 = 5; tray 7 1 = 6; tray 7 2 = -1; get 5 0 = 7; get 6 0 = 7; put 5 0 8 = 1",
            "get 6 0 = 7; get 0 0 = 7; told 7 1 = 4; told 7 2 = 3");
    }

    private static void matches() {
        Script.run("25 match rows", "row 7 2 = 0; row 7 2 = 1; match 0 1 = 1; put 0 0 -0.0d = 1; match 0 1 = 0",
            "put 0 0 0x7ff0000000000007 = 1; put 1 0 NaN = 1; match 0 1 = 1; row 7 3 = 2; match 0 2 = 0; row 5 2 = 3; "
                + "row 5 2 = 4",
            "match 3 4 = 1; row 6 2 = 5; match 3 5 = 0; match 5 5 = 1; match 0 1 = 1; put 1 1 1.0d = 1; match 0 1 = 0",
            "match 0 -1 = -11; match -1 0 = -11; match -1 -1 = -11; match 0 6 = -1; match 6 -1 = -1; match -2 0 = -1; "
                + "failed = -1");
        Script.run("25 match grids", "grid 4 2 2 = 2; grid 4 2 2 = 5; match 2 5 = 1; put 0 1 4 = 1; match 2 5 = 0; put 3 1 4 = 1",
            "match 5 2 = 1; setTray 2 1 -1 = 1; match 2 5 = 0; match 5 2 = 0; setTray 5 1 -1 = 1; match 2 5 = 1; row 4 3 = 6",
            "setTray 5 0 6 = 1; match 2 5 = 0",
            "grid 4 0 1 = 7; grid 5 0 1 = 8; grid 4 0 -1 = 9; match 7 8 = 0; match 7 9 = 1; grid 4 1 -1 = 10; match 9 10 = 0",
            "row 4 0 = 11; match 7 11 = 0");
        Script.run("25 match others", "fish 1 5 -1 -1 = 0; copy 0 no = 1; match 0 1 = 0; match 0 0 = 1; net 1 1 = 2; net 1 1 = 3",
            "net 0 1 = 4; match 2 3 = 1; match 2 4 = 0; putIn 2 0 0 = 1; match 2 3 = 0; putIn 3 0 1 = 1; match 2 3 = 0",
            "putIn 3 0 0 = 1; match 2 3 = 1; net 1 2 = 5; match 3 5 = 0",
            "card = 6; card = 7; match 6 7 = 1; setField 6 10 0 = 1; match 6 7 = 0; setField 7 10 1 = 1; match 6 7 = 0",
            "setField 7 10 0 = 1; match 6 7 = 1; setField 6 8 6 = 1; setField 7 8 7 = 1; match 6 7 = 0; setField 7 8 6 = 1",
            "match 6 7 = 1; setField 7 9 6 = 1; match 6 7 = 0; setField 6 9 6 = 1; match 6 7 = 1; setField 6 0 3 = 1",
            "match 6 7 = 0; match 6 2 = 0");
    }

    private static void telling() {
        Script.run("26 told", "row 3 5 = 0; fish 3 1 -1 -1 = 1; fish 1 1 1 1 = 2; told 0 0 = 0; told 0 1 = 3; told 0 2 = 5",
            "told 0 3 = -1; told 0 4 = -1; told 0 5 = 0; told 2 2 = 0; told 2 3 = 1; told 2 4 = 1; told 2 5 = 0; told 1 3 = -1",
            "told 0 6 = -1; told 0 -1 = -1; told -1 0 = -11; told -1 6 = -1; told 3 0 = -1; told -2 0 = -1; failed = 0");
    }

    private static void full() {
        Script.run("2 to 24 full", "118 * row 4 1 = #", "grid 4 1 1 = 119; count 0 = 120",
            "row 4 1 = -2; failed = -2; row 4 17 = -1; row 4 -1 = -2; grid 4 1 1 = -2; grid 4 0 -1 = -2",
            "grid 4 9 1 = -1; grid 4 -1 -1 = -2; net 0 1 = -2; net 0 -1 = -2; net 8 1 = -1; card = -2; failed = -2",
            "fish 1 1 -1 -1 = -2; fish 1 1 0 -1 = -2; fish 1 1 120 -1 = -1; fish 0 1 -1 -1 = -1; copy 0 no = -2",
            "copy 119 yes = -2; copy -1 no = -11; copy 120 no = -1; count 0 = 120; get 119 0 = 0 ! 3");
        Script.run("5 grid full", "117 * row 4 1 = #", "grid 4 3 1 = -2; grid 4 3 -1 = 117; grid 4 1 0 = 119; count 0 = 120");
        Script.run("24 copy full", "113 * row 4 1 = #", "grid 4 3 1 = 116; setTray 116 2 -1 = 1; copy 116 yes = 119",
            "tray 119 1 = 118; copy 116 no = -2");
        Script.run("24 copy to the last place", "112 * row 4 1 = #", "grid 4 3 1 = 115; copy 115 yes = 119; tray 119 0 = 116",
            "row 4 1 = -2");
        Script.run("24 copy one place short", "113 * row 4 1 = #", "grid 4 3 1 = 116; copy 116 yes = -2; copy 116 no = 117",
            "copy 0 yes = 118; copy 0 no = 119; copy 0 no = -2");
        Script.run("2 the last place for a row", "119 * card = #", "row 4 1 = 119; row 4 1 = -2");
        Script.run("11 the last place for a net", "119 * card = #", "net 4 1 = 119; net 4 1 = -2");
        Script.run("12 the last place for a fish", "119 * card = #", "fish 1 1 -1 -1 = 119; fish 1 1 119 -1 = -2",
            "kin 119 119 yes = 1");
        Script.run("20 the last place for a card", "119 * row 4 0 = #", "card = 119; card = -2; failed = -2");
        Script.run("24 copy full far", "114 * row 4 1 = #", "grid 4 3 1 = 117; copy 117 yes = -2; count 0 = 118",
            "copy 117 no = 118");
    }
}

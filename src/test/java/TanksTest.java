/** Promises 30 to 46: tanks. */
public final class TanksTest {
    public static void main(String[] args) {
        probes();
        values();
        wishes();
        outAndStuck();
        fouled();
        blower();
        eggs();
        swimming();
        numbers();
        days();
        telling();
        Script.end();
    }

    private static void probes() {
        Script.run("30 probes", "row 7 2 = 0; card = 1; probes 0 0 = 1; tank 0 9 = 0; trust 0 1 no = 1; reason 0 1 = 4",
            "probes 0 0 = 1; reason 0 1 = 0; probes 0 -1 = 1; tank 0 9 = -1; probes 5 0 = 1; probes 0 1 = -13; probes 6 0 = -1",
            "probes -1 0 = -1; probes 6 1 = -1; probes 0 2 = -1; probes 0 -2 = -1; failed = -1; tank 0 9 = -1; tank 5 9 = 0",
            "trust 0 3 no = 1; probes 0 1 = -13; reason 0 3 = 4; probes 0 -1 = 1; reason 0 3 = 0");
        Script.run("31 trust", "row 7 3 = 0; probes 0 0 = 1; put 0 0 1.0d = 1; put 0 1 2.0d = 1; put 0 2 3.0d = 1; "
            + "value 0 = 2.0d",
            "trust 0 1 no = 1; value 0 = 1.0d; trust 0 0 no = 1; value 0 = 3.0d; trust 0 1 yes = 1; reason 0 1 = 0",
            "value 0 = 2.0d; trust 1 15 no = 1; trust 0 16 no = -1; trust 0 -1 no = -1; trust 6 0 no = -1; trust -1 0 no = -1",
            "failed = -1");
        Script.run("32 reason", "trust 5 15 no = 1; reason 5 15 = 4; reason 5 14 = 0; failed = 0; reason 4 15 = 0",
            "reason 5 16 = -1; reason 5 -1 = -1; reason 6 0 = -1; reason -1 0 = -1; failed = -1; trust 5 15 yes = 1",
            "reason 5 15 = 0");
        Script.run("30 no minutes before", "row 7 1 = 0; put 0 0 5.0d = 1; probes 0 0 = 1; minute = 0; minute = 0; "
            + "probes 0 0 = 1",
            "minute = 0; minute = 0; minute = 1; reason 0 0 = 2");
    }

    private static void values() {
        Script.run("33 value", "row 7 4 = 0; probes 0 0 = 1; put 0 0 9.0d = 1; put 0 1 NaN = 1; put 0 2 1.0d = 1",
            "put 0 3 4.0d = 1; value 0 = 4.0d ! 0; put 0 0 NaN = 1; value 0 = 1.0d; 4 * trust 0 # no = 1; value 0 = NaN ! 0",
            "value 1 = 0 ! 1; value 6 = 0 ! -1; value -1 = 0 ! -1",
            "row 4 1 = 1; probes 1 1 = 1; value 1 = 0 ! 3; row 6 1 = 2; put 2 0 0.1f = 1; probes 2 2 = 1",
            "value 2 = 0.10000000149011612d; row 7 0 = 3; probes 3 3 = 1; value 3 = NaN ! 0");
    }

    private static void wishes() {
        Script.run("34 wish", "wish 0 0 5.0d = 1; wish 0 1 -inf = 1; wish 0 2 0.0d = 1; wish 0 2 -0.0d = 1; wish 0 2 inf = 1",
            "wish 0 3 -1.0d = 1; wish 5 3 0 = 1; wish 0 2 -4.9E-324d = -1; wish 0 2 -inf = -1; wish 0 0 NaN = -1",
            "wish 0 3 0x7ff0000000000001 = -1; wish 0 3 -1 = -1; wish 0 4 0 = -1; wish 0 -1 0 = -1; wish 6 0 0 = -1",
            "wish -1 0 0 = -1; failed = -1");
        Script.run("35 setting", "setting 0 = 0 ! 0; setting 6 = 0 ! -1; setting -1 = 0 ! -1; row 7 1 = 0; put 0 0 NaN = 1",
            "probes 2 0 = 1; wish 2 3 -7.5d = 1; setting 2 = 0; minute = 0; setting 2 = -7.5d ! 0; setting 1 = 0");
    }

    private static void outAndStuck() {
        Script.run("36 out", "row 7 4 = 0; probes 0 0 = 1; put 0 0 20.0d = 1; put 0 1 19.999999999999996d = 1; put 0 2 inf = 1",
            "put 0 3 NaN = 1; minute = 2; reason 0 0 = 3; reason 0 1 = 0; reason 0 2 = 3; reason 0 3 = 0; minute = 0; "
                + "count 2 = 2");
        Script.run("36 stuck", "row 7 3 = 0; probes 0 0 = 1; put 0 0 5.0d = 1; put 0 1 0.0d = 1; put 0 2 NaN = 1; minute = 0",
            "put 0 1 -0.0d = 1; minute = 0; minute = 1; reason 0 0 = 2; reason 0 1 = 0; reason 0 2 = 0; minute = 1",
            "reason 0 1 = 2; reason 0 2 = 0; trust 0 0 yes = 1; minute = 1; reason 0 0 = 2");
        Script.run("36 kept of those not trusted", "row 7 1 = 0; probes 0 0 = 1; trust 0 0 no = 1; put 0 0 5.0d = 1; minute = 0",
            "minute = 0; trust 0 0 yes = 1; minute = 1; reason 0 0 = 2; trust 0 0 yes = 1; put 0 0 6.0d = 1; minute = 0",
            "minute = 0; minute = 1");
        Script.run("36 out ahead of stuck", "row 7 1 = 0; probes 0 0 = 1; put 0 0 25.0d = 1; 4 * trust 0 0 yes = 1; minute = 1",
            "trust 0 0 yes = 1; minute = 1; trust 0 0 yes = 1; minute = 1; reason 0 0 = 3");
        Script.run("36 other rows", "row 4 2 = 0; probes 0 0 = 1; wish 0 3 7.0d = 1; minute = 0; setting 0 = 0; count 2 = 1",
            "row 6 2 = 1; probes 1 1 = 1; put 1 0 20.0f = 1; put 1 1 -20.0f = 1; minute = 1; reason 1 0 = 3; reason 1 1 = 0",
            "minute = 0; minute = 1; reason 1 1 = 2; failed = 0");
        Script.run("36 two tanks", "row 7 1 = 0; put 0 0 30.0d = 1; probes 0 0 = 1; probes 5 0 = 1; minute = 2; reason 0 0 = 3",
            "reason 5 0 = 3; trust 5 0 yes = 1; minute = 1");
    }

    private static void fouled() {
        String three = "row 7 3 = 0; probes 0 0 = 1; put 0 0 8.0d = 1; put 0 1 8.0d = 1; put 0 2 8.5d = 1; minute = 0";
        Script.run("36 fouled", three, "put 0 0 5.9d = 1; put 0 1 8.1d = 1; minute = 1; reason 0 0 = 1; reason 0 1 = 0",
            "reason 0 2 = 0; value 0 = 8.1d");
        Script.run("36 not by 2", three, "put 0 0 6.0d = 1; put 0 1 8.1d = 1; minute = 0; put 0 0 4.0d = 1; put 0 1 8.2d = 1",
            "put 0 2 8.6d = 1; minute = 0; put 0 0 1.5d = 1; put 0 1 8.3d = 1; minute = 1; reason 0 0 = 1");
        Script.run("36 not if all fall", three, "put 0 0 5.0d = 1; put 0 1 5.1d = 1; put 0 2 5.2d = 1; minute = 0; "
            + "reason 0 0 = 0");
        Script.run("36 value falls by 1", three, "put 0 0 4.0d = 1; put 0 1 7.0d = 1; minute = 1; reason 0 0 = 1");
        Script.run("36 value falls by more", three, "put 0 0 4.0d = 1; put 0 1 6.9d = 1; minute = 0");
        Script.run("36 value ahead of judging", three, "put 0 0 30.0d = 1; put 0 1 5.0d = 1; put 0 2 8.6d = 1; minute = 2",
            "reason 0 0 = 3; reason 0 1 = 1; reason 0 2 = 0");
        Script.run("36 lost item", three, "put 0 0 NaN = 1; put 0 1 8.1d = 1; minute = 0; put 0 0 1.0d = 1; put 0 1 8.2d = 1",
            "put 0 2 8.7d = 1; minute = 0; put 0 0 -2.0d = 1; put 0 1 8.3d = 1; minute = 1; reason 0 0 = 1");
        Script.run("36 lost value", "row 7 2 = 0; probes 0 0 = 1; trust 0 0 no = 1; put 0 0 9.0d = 1; put 0 1 NaN = 1; "
            + "minute = 0",
            "trust 0 0 yes = 1; put 0 0 1.0d = 1; minute = 0; reason 0 0 = 0");
        // The value by which the minute went is the one behind its judging: 5, not 12.
        Script.run("36 value of the minute", "row 7 3 = 0; probes 0 0 = 1; put 0 0 25.0d = 1; put 0 1 12.0d = 1; "
            + "put 0 2 5.0d = 1",
            "minute = 1; put 0 0 26.0d = 1; put 0 1 9.0d = 1; put 0 2 4.9d = 1; minute = 1; reason 0 1 = 1");
        Script.run("36 stuck ahead of fouled", "row 7 2 = 0; probes 0 0 = 1; put 0 0 9.0d = 1; put 0 1 3.0d = 1; minute = 0",
            "minute = 0; put 0 0 2.0d = 1; minute = 2; reason 0 0 = 1; reason 0 1 = 2");
        Script.run("36 endless", "row 7 3 = 0; probes 0 0 = 1; put 0 0 -inf = 1; put 0 1 -inf = 1; put 0 2 9.0d = 1; minute = 0",
            "put 0 2 5.0d = 1; minute = 1; reason 0 2 = 1; minute = 2; reason 0 0 = 2");
    }

    private static void blower() {
        String one = "row 7 2 = 0; probes 0 0 = 1; put 0 0 5.0d = 1; put 0 1 5.0d = 1; trust 0 0 no = 1; wish 0 0 8.0d = 1; "
            + "wish 0 1 2.0d = 1; wish 0 3 42.0d = 1";
        Script.run("36 blower", one, "wish 0 2 100.0d = 1; minute = 0; setting 0 = 6.0d; put 0 1 6.5d = 1; minute = 0",
            "setting 0 = 9.0d; put 0 1 19.0d = 1; minute = 0; setting 0 = 0.0d; put 0 1 NaN = 1; minute = 0; setting 0 = 42.0d",
            "put 0 1 8.25d = 1; minute = 0; setting 0 = 41.5d");
        Script.run("36 blower rate", one, "minute = 0; setting 0 = 0.0d; wish 0 2 1.5d = 1; put 0 1 4.0d = 1; minute = 0",
            "setting 0 = 1.5d; put 0 1 3.0d = 1; minute = 0; setting 0 = 3.0d; put 0 1 9.0d = 1; minute = 0; setting 0 = 1.5d",
            "put 0 1 9.5d = 1; minute = 0; setting 0 = 0.0d; put 0 1 9.0d = 1; minute = 0; setting 0 = 0.0d");
        Script.run("36 blower top", one, "wish 0 2 1.0E300d = 1; wish 0 1 1000.0d = 1; minute = 0; setting 0 = 100.0d",
            "put 0 1 7.99d = 1; minute = 0; setting 0 = 100.0d; put 0 1 8.01d = 1; minute = 0; setting 0 = 90.00000000000021d");
        Script.run("36 blower no number", one, "wish 0 2 inf = 1; wish 0 1 inf = 1; minute = 0; setting 0 = 100.0d",
            "put 0 1 8.0d = 1; minute = 0; setting 0 = 42.0d; wish 0 3 inf = 1; put 0 1 8.5d = 1; minute = 0; setting 0 = 0.0d",
            "put 0 1 NaN = 1; minute = 0; setting 0 = inf; put 0 1 9.0d = 1; minute = 0; setting 0 = inf; put 0 1 9.5d = 1",
            "wish 0 3 1.0d = 1; minute = 0; setting 0 = 1.0d");
        Script.run("36 blower endless wish", one, "wish 0 2 3.0d = 1; wish 0 0 inf = 1; minute = 0; setting 0 = 3.0d",
            "wish 0 0 -inf = 1; put 0 1 6.0d = 1; minute = 0; setting 0 = 0.0d; put 0 1 -inf = 1; trust 0 1 yes = 1; minute = 0",
            "setting 0 = 42.0d");
        Script.run("36 blower safe is not cut", one, "wish 0 3 -12.0d = 1; wish 0 2 1.0d = 1; put 0 1 NaN = 1; minute = 0",
            "setting 0 = -12.0d; put 0 1 7.0d = 1; minute = 0; setting 0 = 0.0d; wish 0 3 1.0E9d = 1; put 0 1 NaN = 1; "
                + "minute = 0",
            "setting 0 = 1.0E9d; put 0 1 7.5d = 1; minute = 0; setting 0 = 100.0d");
        Script.run("36 blower zeros", one, "wish 0 3 -0.0d = 1; put 0 1 NaN = 1; minute = 0; setting 0 = -0.0d",
            "wish 0 2 -0.0d = 1; put 0 1 5.0d = 1; minute = 0; setting 0 = -0.0d; put 0 1 12.0d = 1; minute = 0; "
                + "setting 0 = 0.0d");
        Script.run("36 blower by what is left", "row 7 2 = 0; probes 0 0 = 1; put 0 0 30.0d = 1; put 0 1 6.0d = 1",
            "wish 0 0 10.0d = 1; wish 0 1 1.0d = 1; wish 0 2 99.0d = 1; wish 0 3 50.0d = 1; minute = 1; setting 0 = 4.0d",
            "trust 0 1 no = 1; minute = 0; setting 0 = 50.0d");
        Script.run("36 floats", "row 6 1 = 0; probes 0 0 = 1; put 0 0 0.1f = 1; wish 0 1 1.0d = 1; wish 0 2 9.0d = 1",
            "wish 0 0 1.0d = 1; minute = 0; setting 0 = 0.8999999985098839d");
    }

    private static void eggs() {
        Script.run("37 trays", "grid 4 2 2 = 2; grid 5 1 1 = 4; row 4 1 = 5; trays 0 2 = 1; tank 0 10 = 2; trays 0 4 = -13",
            "trays 0 5 = -13; tank 0 10 = 2; trays 0 -1 = 1; tank 0 10 = -1; trays 5 2 = 1; trays 6 2 = -1; trays -1 5 = -1",
            "trays 0 6 = -1; trays 0 -2 = -1; failed = -1");
        Script.run("38 eggs", "grid 4 3 2 = 3; trays 1 3 = 1; eggs 1 0 1 7 no = 7; eggs 1 0 1 100000 no = 100007",
            "eggs 1 0 1 100000 yes = 7; eggs 1 0 1 8 yes = -3; failed = -3; eggs 1 0 1 7 yes = 0; eggs 1 0 1 1 yes = -3",
            "get 0 1 = 0",
            "eggs 1 3 0 1 no = -12; eggs 1 -1 0 1 no = -12; eggs 1 0 2 1 no = -12; eggs 1 0 -1 1 no = -12; setTray 3 2 -1 = 1",
            "eggs 1 2 9 1 no = -11; eggs 0 0 0 1 no = -11; eggs 1 0 0 0 no = -1; eggs 1 0 0 100001 no = -1",
            "eggs 1 0 0 -1 yes = -1; eggs 0 0 0 0 no = -1; eggs 6 0 0 1 no = -1; eggs -1 0 0 1 no = -1; failed = -1",
            "put 0 0 max = 1; eggs 1 0 0 1 no = -3; eggs 1 0 0 1 yes = 2147483646; eggs 1 0 0 1 no = max; put 0 0 -5 = 1",
            "eggs 1 0 0 1 yes = -3; eggs 1 0 0 3 no = -2; failed = 0; get 0 0 = -2");
        Script.run("39 warm", "warm 0 249 = 0; warm 0 1 = 1; warm 0 249 = 1; warm 0 1 = 2; warm 0 199 = 2; warm 0 1 = 3",
            "warm 0 1000 = 3; tank 0 1 = 1700; warm 0 0 = 3; warm 1 0 = 0; warm 0 1001 = -1; warm 0 -1 = -1; warm 6 1 = -1",
            "warm -1 1 = -1; failed = -1; tank 0 1 = 1700");
    }

    private static void swimming() {
        Script.run("40 swim", "grid 4 3 2 = 3; trays 0 3 = 1; put 0 0 5 = 1; put 0 1 -9 = 1; put 1 1 7 = 1; put 2 0 100 = 1",
            "setTray 3 2 -1 = 1; swim 0 = 0 ! -3; warm 0 699 = 2; swim 0 = 0 ! -3; get 0 0 = 5; warm 0 1 = 3; swim 0 = 12 ! 0",
            "tank 0 0 = 12; tank 0 1 = 0; get 0 0 = 0; get 0 1 = 0; get 1 1 = 0; get 2 0 = 100; swim 0 = 0 ! -3",
            "warm 0 800 = 3; put 0 0 3 = 1; setTray 3 1 0 = 1; setTray 3 2 0 = 1; swim 0 = 9; tank 0 0 = 21; warm 0 700 = 3",
            "swim 0 = 0 ! 0; tank 0 1 = 0; warm 1 700 = 3; swim 1 = 0 ! 1; swim 2 = 0 ! 1; swim 6 = 0 ! -1; swim -1 = 0 ! -1");
        Script.run("40 swim many", "grid 4 8 2 = 8; trays 0 8 = 1", "8 * put # 0 max = 1", "8 * put # 1 max = 1",
            "warm 0 700 = 3",
            "swim 0 = 34359738352; tank 0 0 = 34359738352");
    }

    private static void numbers() {
        String fish = "grid 4 1 1 = 1; trays 0 1 = 1; eggs 0 0 0 1000 no = 1000; warm 0 700 = 3; swim 0 = 1000";
        Script.run("41 died", fish, "died 0 10 0 = 990; died 0 20 3 = 970; died 0 5 3 = 965; tank 0 4 = 10; tank 0 5 = 0",
            "tank 0 7 = 25; died 0 966 1 = 0 ! -3; died 0 0 0 = 0 ! -1; died 0 1000001 0 = 0 ! -1; died 0 1000000 0 = 0 ! -3",
            "died 0 1 4 = 0 ! -1; died 0 1 -1 = 0 ! -1; died 6 1 0 = 0 ! -1; died -1 1 0 = 0 ! -1; died 0 965 1 = 0 ! 0",
            "tank 0 5 = 965; tank 0 0 = 0");
        Script.run("43 sell", fish, "sell 0 100 = 900 ! 0; sell 0 901 = 0 ! -3; treat 0 2 = 2; sell 0 1 = 0 ! -3; day 2 = 2",
            "sell 0 1 = 0 ! -3; day 1 = 3; sell 0 900 = 0 ! 0; sell 0 1 = 0 ! -3; sell 0 0 = 0 ! -1; sell 0 1000001 = 0 ! -1",
            "sell 6 1 = 0 ! -1; sell -1 1 = 0 ! -1");
        Script.run("43 sell today", fish, "treat 0 0 = 0; sell 0 1 = 0 ! -3; day 1 = 1; sell 0 1 = 999");
        Script.run("44 shift", fish, "shift 0 1 300 = 300; tank 0 0 = 700; tank 1 3 = -1; treat 0 5 = 5; shift 0 1 1 = 301",
            "tank 1 3 = 5; treat 2 9 = 9; shift 0 2 1 = 1; tank 2 3 = 9; tank 0 3 = 5; shift 2 0 1 = 699; tank 0 3 = 9",
            "shift 0 0 1 = 0 ! -1; shift 0 6 1 = 0 ! -1; shift -1 0 1 = 0 ! -1; shift 0 1 0 = 0 ! -1; shift 0 1 1000001 = 0 ! -1",
            "shift 0 3 700 = 0 ! -3; tank 3 3 = -1; shift 0 3 699 = 699; tank 0 0 = 0");
    }

    private static void days() {
        Script.run("42 treat", "treat 0 3 = 3; treat 0 2 = 3; treat 0 0 = 3; tank 0 3 = 3; day 10 = 10; treat 0 1000 = 1010",
            "treat 1 0 = 10; treat 0 1001 = -1; treat 0 -1 = -1; treat 6 1 = -1; treat -1 1 = -1; failed = -1; tank 0 3 = 1010");
        Script.run("45 day", "day 0 = 0; day 1000 = 1000; day 1 = 1001; count 1 = 1001; day 1001 = -1; day -1 = -1; failed = -1",
            "count 1 = 1001");
    }

    private static void telling() {
        Script.run("46 tank", "tank 0 0 = 0 ! 0; tank 0 2 = 0; warm 0 260 = 1; tank 0 2 = 1; tank 0 1 = 260; tank 0 8 = 0",
            "tank 0 3 = -1 ! 0; tank 0 9 = -1; tank 0 10 = -1; tank 0 11 = 0 ! -1; tank 0 -1 = 0 ! -1; tank 6 0 = 0 ! -1",
            "tank -1 0 = 0 ! -1");
    }
}

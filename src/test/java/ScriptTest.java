/** Promises 25 and 26: scripts and simulations. */
public final class ScriptTest {
    private static final int NONE = DogTrials.NONE;

    public static void main(String[] args) {
        command0();
        command1();
        command2();
        command3();
        command4();
        command5();
        command6();
        command7();
        command8();
        command9();
        severalCommands();
        promise25Throws();
        promise26();
        promise26OfOneRound();
        promise26Throws();
        Check.end();
    }

    private static void script(DogTrials x, int n, long script, int due) {
        Check.same("runScript(" + n + ", " + script + ")", x.runScript(n, script), due);
    }

    /** Dog 0 has run with 88, dog 1 is to run anew from phase 2 on, dog 2 has not run, dog 3 has withdrawn. */
    private static DogTrials four() {
        DogTrials x = Check.trial("T060d001d102d203d304");
        x.run(Check.points(2, 2, 2, 2, 2, 2), 20);
        x.run(Check.points(1, 1, 1, 1, 1, 1), 20);
        x.interfere(1, 2);
        x.withdraw(3);
        return x;
    }

    private static void command0() {
        DogTrials x = four();
        script(x, 1, 0, 0);
        script(x, 1, 999, 0);
        script(x, 4, 0, 0);
        script(x, 2, 9000, 0);
    }

    private static void command1() {
        DogTrials x = four();
        script(x, 1, 1020, NONE);
        script(x, 1, 1920, NONE);
        script(x, 1, 1001, NONE);
        script(x, 1, 1000, 0);
        script(x, 1, 1021, 0);
        script(x, 1, 1030, 0);
        script(x, 1, 1031, 0);
        script(x, 1, 1099, 0);
        script(x, 2, 1020_1001, 1);
        script(x, 2, 1019_1001, NONE);
        script(x, 3, 1005_1005_1005L, 2);
        // dog 2 loses 1 in each phase, then dog 1 loses 3 in the phases 2 to 5
        script(x, 2, 1105_6102, NONE);
        script(x, 3, 1105_1305_6200L, NONE);
        script(x, 3, 1105_1305_6301L, NONE);
        DogTrials y = Check.trial("T060d001");
        script(y, 2, 1130_1030, 1);
        y.nextDay(60);
        y.withdraw(0);
        script(y, 1, 1010, 0);
    }

    private static void command2() {
        DogTrials x = four();
        script(x, 1, 2000, NONE);
        script(x, 1, 2001, NONE);
        script(x, 1, 2002, NONE);
        script(x, 1, 2003, 0);
        script(x, 1, 2004, 0);
        script(x, 1, 2012, 0);
        script(x, 1, 2100, 0);
        script(x, 2, 2002_2002, 1);
        script(x, 2, 2002_8001, NONE);
    }

    private static void command3() {
        DogTrials x = four();
        script(x, 1, 3000, NONE);
        script(x, 1, 3500, NONE);
        script(x, 1, 3600, 0);
        script(x, 1, 3900, 0);
        script(x, 1, 3001, 0);
        script(x, 1, 3002, 0);
        script(x, 1, 3003, 0);
        script(x, 1, 3004, 0);
        script(x, 2, 3000_3000, 1);
        script(x, 2, 3000_8003, NONE);
        script(x, 2, 3000_6200, NONE);
    }

    private static void command4() {
        DogTrials x = four();
        script(x, 1, 4060, NONE);
        script(x, 1, 4600, NONE);
        script(x, 1, 4059, 0);
        script(x, 1, 4601, 0);
        script(x, 1, 4000, 0);
        script(x, 1, 4999, 0);
        script(x, 2, 4060_7001, 1);
        script(x, 4, 4060_1030_1030_8000L, NONE);
    }

    private static void command5() {
        DogTrials x = four();
        script(x, 1, 5002, NONE);
        script(x, 1, 5011, NONE);
        script(x, 1, 5001, 0);
        script(x, 1, 5012, 0);
        script(x, 1, 5000, 0);
        script(x, 1, 5003, 0);
        script(x, 1, 5009, 0);
        script(x, 1, 5021, 0);
        script(x, 1, 5091, 0);
        script(x, 1, 5102, 0);
        script(x, 1, 5902, 0);
        DogTrials y = Check.trial("T600d001d002d003d004d005d006d007d008d009d010d011d012");
        script(y, 1, 5099, NONE);
        script(y, 1, 5088, NONE);
    }

    private static void command6() {
        DogTrials x = four();
        script(x, 1, 6100, NONE);
        script(x, 1, 6201, NONE);
        script(x, 1, 6200, 0);
        script(x, 1, 6101, 0);
        script(x, 1, 6000, 0);
        script(x, 1, 6002, 0);
        script(x, 1, 6102, 0);
        script(x, 1, 6103, 0);
        script(x, 1, 6104, 0);
        script(x, 1, 6199, 0);
        DogTrials y = Check.trial("T600d001d002d003d004d005d006d007d008d009d010d011d012");
        for (int i = 0; i < 12; i++) {
            y.run(Check.points(11 - i, 0, 0, 0, 0, 0), 1);
        }
        script(y, 1, 6111, NONE);
        script(y, 1, 6210, NONE);
        script(y, 1, 6903, NONE);
        script(y, 1, 6002, 0);
    }

    private static void command7() {
        DogTrials x = four();
        script(x, 1, 7000, NONE);
        script(x, 1, 7040, NONE);
        script(x, 1, 7041, 0);
        script(x, 1, 7999, 0);
        script(x, 2, 1020_7060, NONE);
        script(x, 2, 1019_7060, 1);
    }

    private static void command8() {
        DogTrials x = four();
        script(x, 1, 8002, NONE);
        script(x, 1, 8001, 0);
        script(x, 1, 8003, 0);
        script(x, 1, 8102, 0);
        script(x, 1, 8012, 0);
        DogTrials y = Check.trial("T600d001d002d003d004d005d006d007d008d009d010d011d012");
        script(y, 1, 8012, NONE);
        script(y, 1, 8002, 0);
    }

    private static void command9() {
        DogTrials x = four();
        script(x, 1, 9000, NONE);
        script(x, 1, 9001, 0);
        script(x, 1, 9002, 0);
        script(x, 1, 9009, 0);
        script(x, 1, 9010, 0);
        script(x, 1, 9100, 0);
        x.run(0, 30);
        script(x, 1, 9002, NONE);
        script(x, 1, 9000, 0);
        script(x, 1, 9012, 0);
        script(x, 1, 9102, 0);
        x.withdraw(1);
        x.withdraw(2);
        script(x, 1, 9001, NONE);
        script(x, 1, 9011, 0);
        script(x, 1, 9101, 0);
    }

    private static void severalCommands() {
        DogTrials x = four();
        script(x, 4, 9000_8002_7040_6100L, NONE);
        script(x, 4, 9001_8001_7041_6200L, 0);
        script(x, 4, 9000_8001_7041_6200L, 1);
        script(x, 4, 9000_8002_7041_6200L, 2);
        script(x, 4, 9000_8002_7040_6200L, 3);
        script(x, 4, 9000, 0);
        script(x, 3, 2002_1001_9001L, NONE);
        script(x, 4, 1001_3102_5002_5011L, 2);
        script(x, 4, 1001_3102_5001_5012L, NONE);
    }

    private static void promise25Throws() {
        DogTrials x = four();
        Check.badArgument("n = 0", () -> x.runScript(0, 0));
        Check.badArgument("n = 5", () -> x.runScript(5, 9000));
        Check.badArgument("n = -1", () -> x.runScript(-1, 9000));
        Check.badArgument("script = -1", () -> x.runScript(1, -1));
        Check.badArgument("script = MIN", () -> x.runScript(4, Long.MIN_VALUE));
        Check.badArgument("script = MAX", () -> x.runScript(4, Long.MAX_VALUE));
        Check.badArgument("5 digits", () -> x.runScript(1, 10000));
        Check.badArgument("9 digits", () -> x.runScript(2, 100000000));
        Check.badArgument("13 digits", () -> x.runScript(3, 1000000000000L));
        Check.badArgument("17 digits", () -> x.runScript(4, 10000000000000000L));
        script(x, 1, 9999, 0);
        script(x, 2, 99999999, 0);
        script(x, 3, 999999999999L, 0);
        script(x, 4, 9999999999999999L, 0);
    }

    private static void promise26() {
        String[] texts = {"T300", "T060d001", "T100d001d102d203d304", "T600d001d102d203d304d405d506d012",
            "T060d001d002d003d104d105d206r543210"};
        long[] seeds = {0, 1, -1, 42, 123456789123L, Long.MAX_VALUE, Long.MIN_VALUE, 77777, -31};
        int[] rounds = {1, 2, 3, 7, 20, 98, 99};
        for (String text : texts) {
            for (long seed : seeds) {
                for (int m : rounds) {
                    Check.same("simulate(" + seed + ", " + m + ") of " + text, Check.trial(text).simulate(seed, m),
                        ScriptEdgesTest.played(Check.trial(text), seed, m));
                }
            }
        }
    }

    /** From the seed 0 the first x is 1442695040888963407, so r is 167951807. */
    private static void promise26OfOneRound() {
        Check.same("no dogs", Check.trial("T300").simulate(0, 1), 0);
        // r / 256 = 656061 leaves 0 of 21, 10 of 11, 0 of 21, 8 of 31, 10 of 11, 10 of 11
        Check.same("one dog runs", Check.trial("T300d001").simulate(0, 1), 62);
        DogTrials x = Check.trial("T060d001");
        x.run(0, 30);
        x.interfere(0, 0);
        x.run(0, 30);
        // r / 128 = 1312123 leaves phase 1
        Check.same("one is interfered with", x.simulate(0, 1), 20);
        x.enter(1, 2);
        x.withdraw(1);
        // r / 8 is odd, so dog 1 is told, and its state is not 1
        Check.same("none is interfered with", x.simulate(0, 1), 100);
        x.interfere(0, 5);
        Check.same("the day is over", x.simulate(0, 1), 1090);
    }

    private static void promise26Throws() {
        DogTrials x = Check.trial("T300d001");
        Check.badArgument("m = 0", () -> x.simulate(1, 0));
        Check.badArgument("m = 100", () -> x.simulate(1, 100));
        Check.badArgument("m = -1", () -> x.simulate(1, -1));
        Check.badArgument("m = MAX", () -> x.simulate(1, Integer.MAX_VALUE));
    }
}

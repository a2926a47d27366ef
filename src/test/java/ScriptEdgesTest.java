import java.math.BigInteger;

/** The edges of promises 25 and 26, each sentence in a method of its own. */
public final class ScriptEdgesTest {
    private static final int NONE = DogTrials.NONE;
    private static final long FACTOR = 6364136223846793005L;
    private static final long TERM = 1442695040888963407L;
    private static final int[] COMMANDS = {0, 999, 1001, 1930, 1000, 1031, 2000, 2001, 2011, 2012, 2100, 3000, 3501,
        3011, 3600, 4060, 4600, 4059, 4601, 5000, 5001, 5010, 5011, 5100, 6100, 6201, 6011, 6311, 7000, 7001, 7060,
        7090, 8000, 8001, 8003, 8012, 8100, 9000, 9001, 9002, 9003, 9010, 9100};

    public static void main(String[] args) {
        numberOfCommands();
        digitsOfTheScript();
        zerosBeforeTheScript();
        firstCommandIsTheHighestGroup();
        everySingleCommand();
        everyPairOfCommands();
        noOtherFirstDigit();
        minutesOfARun();
        pointsOfARun();
        runUpToTheSunset();
        dogsThatDoNotExist();
        phasesThatDoNotExist();
        sunsetsAtTheirEdges();
        dogOfTheOrder();
        placesFrom1To9();
        minuteAtLeast();
        justSoManyToRun();
        whyNotIsW();
        anotherDigitWhereA0IsWritten();
        fourCommandsOnOneCopy();
        scriptsChangeNothing();
        roundsAtTheirEdges();
        seedsAtTheirEdges();
        smallestAndGreatestR();
        roundWithoutDogs();
        roundOfADayThatIsOver();
        roundOfInterference();
        simulatedDays();
        simulationsChangeNothing();
        Check.end();
    }

    private static void script(DogTrials x, int n, long script, int due) {
        Check.same("runScript(" + n + ", " + script + ")", x.runScript(n, script), due);
    }

    /** "n: number of commands, 1 to 4". */
    private static void numberOfCommands() {
        DogTrials x = new DogTrials();
        script(x, 1, 7000, NONE);
        script(x, 4, 7000700070007000L, NONE);
        int[] bad = {0, 5, -1, Integer.MIN_VALUE, Integer.MAX_VALUE};
        for (int n : bad) {
            Check.badArgument("runScript(" + n + ", 7000)", () -> x.runScript(n, 7000));
            Check.badArgument("runScript(" + n + ", 0)", () -> x.runScript(n, 0));
        }
    }

    /** "a number of at most 4 * n digits (0 or more)". */
    private static void digitsOfTheScript() {
        DogTrials x = new DogTrials();
        long most = 9999;
        for (int n = 1; n <= 4; n++) {
            int count = n;
            long tooMany = most + 1;
            script(x, n, most, 0);
            script(x, n, 0, 0);
            Check.badArgument("runScript(" + n + ", " + tooMany + ")", () -> x.runScript(count, tooMany));
            Check.badArgument("runScript(" + n + ", -1)", () -> x.runScript(count, -1));
            Check.badArgument("runScript(" + n + ", MIN)", () -> x.runScript(count, Long.MIN_VALUE));
            Check.badArgument("runScript(" + n + ", MAX)", () -> x.runScript(count, Long.MAX_VALUE));
            most = most * 10000 + 9999;
        }
    }

    /** "with zeros before it, if it has fewer digits": then the first command is 0000, which fails. */
    private static void zerosBeforeTheScript() {
        DogTrials x = new DogTrials();
        script(x, 1, 7000, NONE);
        script(x, 2, 7000, 0);
        script(x, 3, 70007000L, 0);
        script(x, 4, 700070007000L, 0);
        script(x, 1, 700, 0);
        script(x, 1, 7, 0);
        script(x, 2, 700_7000L, 0);
    }

    /** "the first command is the highest group of the number"; "the index, from 0, of the first command that fails". */
    private static void firstCommandIsTheHighestGroup() {
        DogTrials x = new DogTrials();
        script(x, 4, 7001700070007000L, 0);
        script(x, 4, 7000700170007000L, 1);
        script(x, 4, 7000700070017000L, 2);
        script(x, 4, 7000700070007001L, 3);
        script(x, 4, 7000700070007000L, NONE);
        script(x, 4, 7000700170017001L, 1);
        script(x, 2, 70007001L, 1);
        script(x, 3, 700070007001L, 2);
    }

    /** Whether a command succeeds, told by the calls of the face that have its effect. */
    private static boolean byCalls(DogTrials x, int command) {
        int second = command / 100 % 10;
        int third = command / 10 % 10;
        int fourth = command % 10;
        int two = command % 100;
        try {
            switch (command / 1000) {
                case 1: return x.run(second * 10101010101L, two) != NONE;
                case 2: return second == 0 && x.withdraw(two) != NONE;
                case 3: return x.interfere(two, second) != NONE;
                case 4: return x.nextDay(command % 1000) != NONE;
                case 5: return second == 0 && x.order(third) == fourth;
                case 6: return x.dog(two, 6) == second;
                case 7: return x.about(5) >= command % 1000;
                case 8: return second == 0 && x.about(1) == two;
                case 9: return second == 0 && third == 0 && x.whyNot() == fourth;
                default: return false;
            }
        } catch (IndexOutOfBoundsException | IllegalArgumentException | IllegalStateException e) {
            return false;
        }
    }

    private static void everySingleCommand() {
        for (Twins.Start start : Twins.ALL) {
            DogTrials x = start.make();
            for (int command = 0; command <= 9999; command++) {
                if (command % 300 == 0) {
                    x = start.make();
                }
                script(x, 1, command, byCalls(start.make(), command) ? NONE : 0);
            }
        }
    }

    private static void everyPairOfCommands() {
        for (Twins.Start start : Twins.ALL) {
            for (int a : COMMANDS) {
                DogTrials x = start.make();
                for (int b : COMMANDS) {
                    DogTrials y = start.make();
                    int due = !byCalls(y, a) ? 0 : byCalls(y, b) ? NONE : 1;
                    script(x, 2, a * 10000L + b, due);
                }
            }
        }
    }

    /** "so does any other group": with the first digit 0. */
    private static void noOtherFirstDigit() {
        DogTrials x = Check.trial("T300d001");
        int[] groups = {0, 1, 10, 100, 101, 130, 501, 900, 999};
        for (int group : groups) {
            script(x, 1, group, 0);
            script(x, 2, 70000000L + group, 1);
        }
    }

    /** "1 x m m: the first dog of the order runs mm minutes (01 to 30)". */
    private static void minutesOfARun() {
        DogTrials x = Check.trial("T300d001d102");
        script(x, 2, 1001_7001, NONE);
        script(x, 2, 1001_7002, 1);
        script(x, 2, 1030_7030, NONE);
        script(x, 2, 1030_7031, 1);
        script(x, 1, 1000, 0);
        script(x, 1, 1031, 0);
        script(x, 1, 1040, 0);
        script(x, 1, 1099, 0);
    }

    /** "loses x points in each phase": 0 to 9, told by the place against a dog with a known score. */
    private static void pointsOfARun() {
        for (int points = 0; points <= 9; points++) {
            DogTrials x = Check.trial("T300d001d102d203");
            x.run(Check.points(points, points, points, points, points, points), 1);
            script(x, 4, (1000 + 100 * points + 1) * 1000000000000L + 6100_6101_6102L, 3);
            if (points < 9) {
                script(x, 3, (1100 + 100 * points + 1) * 100000000L + 6100_6201, NONE);
            }
            if (points > 0) {
                script(x, 3, (900 + 100 * points + 1) * 100000000L + 6200_6101, NONE);
            }
        }
        DogTrials y = Check.trial("T300d001d102");
        y.run(0, 1);
        y.run(Check.points(0, 0, 0, 0, 9, 9), 1);
        y.interfere(0, 4);
        script(y, 3, 1901_6100_6101L, NONE);
        script(y, 3, 1801_6100_6201L, NONE);
    }

    /** "1 fails, too, if it is too dark". */
    private static void runUpToTheSunset() {
        DogTrials x = Check.trial("T060d001d102d203");
        script(x, 2, 1030_1030, NONE);
        script(x, 3, 1030_1030_7060L, NONE);
        script(x, 3, 1030_1030_1001L, 2);
        script(x, 3, 1030_1029_1001L, NONE);
        script(x, 3, 1030_1029_1002L, 2);
        script(x, 3, 1030_1030_9002L, NONE);
        script(x, 3, 1030_1029_9002L, 2);
        script(Check.trial("T060"), 1, 1001, 0);
    }

    /** "commands with dogs ... that do not exist fail": the last one that does is number of dogs - 1. */
    private static void dogsThatDoNotExist() {
        DogTrials x = Check.trial(Check.TWELVE);
        for (int i = 0; i < 12; i++) {
            x.run(Check.points(11 - i, 0, 0, 0, 0, 0), 1);
        }
        script(x, 1, 2011, NONE);
        script(x, 1, 2012, 0);
        script(x, 1, 2099, 0);
        script(x, 1, 3011, NONE);
        script(x, 1, 3012, 0);
        script(x, 1, 3099, 0);
        script(x, 1, 6111, NONE);
        script(x, 1, 6112, 0);
        script(x, 1, 6199, 0);
        DogTrials y = new DogTrials();
        script(y, 1, 2000, 0);
        script(y, 1, 3000, 0);
        script(y, 1, 5000, 0);
        script(y, 1, 6100, 0);
    }

    private static void phasesThatDoNotExist() {
        DogTrials x = Check.trial("T300d001");
        x.run(0, 1);
        for (int phase = 0; phase <= 9; phase++) {
            script(x, 1, 3000 + 100 * phase, phase <= 5 ? NONE : 0);
        }
    }

    /** "4 x y z: begins the next day with the sunset xyz". */
    private static void sunsetsAtTheirEdges() {
        DogTrials x = Check.trial("T300d001d102d203");
        x.run(0, 30);
        script(x, 1, 4059, 0);
        script(x, 1, 4060, NONE);
        script(x, 1, 4600, NONE);
        script(x, 1, 4601, 0);
        script(x, 2, 4060_7001, 1);
        script(x, 4, 4060_1030_1030_7060L, NONE);
        script(x, 3, 4060_1030_9000L, NONE);
        script(x, 4, 4060_1030_1030_9001L, NONE);
        script(x, 4, 4059_1030_1030_9001L, 0);
    }

    /** "5 0 k i: succeeds if dog i (0 to 9) is dog k of the order". */
    private static void dogOfTheOrder() {
        DogTrials x = Check.trial(Check.TWELVE);
        for (int k = 0; k <= 9; k++) {
            for (int i = 0; i <= 9; i++) {
                script(x, 1, 5000 + 10 * k + i, i == k ? NONE : 0);
            }
        }
        x.withdraw(0);
        script(x, 1, 5001, NONE);
        script(x, 1, 5000, 0);
        script(x, 1, 5098, 0);
        script(x, 1, 5089, NONE);
        DogTrials y = Check.trial("T300d001");
        script(y, 1, 5000, NONE);
        script(y, 1, 5010, 0);
        script(y, 1, 5001, 0);
    }

    /** "6 x i i: succeeds if the place of dog ii is x (1 to 9)". */
    private static void placesFrom1To9() {
        DogTrials x = Check.trial(Check.TWELVE);
        for (int i = 0; i < 11; i++) {
            x.run(Check.points(i, 0, 0, 0, 0, 0), 1);
        }
        for (int place = 0; place <= 9; place++) {
            for (int i = 0; i <= 12; i++) {
                script(x, 1, 6000 + 100 * place + i, place >= 1 && i == place - 1 ? NONE : 0);
            }
        }
    }

    private static void minuteAtLeast() {
        DogTrials x = Check.trial("T600d001d102d203");
        script(x, 1, 7000, NONE);
        script(x, 1, 7001, 0);
        x.run(0, 30);
        script(x, 1, 7029, NONE);
        script(x, 1, 7030, NONE);
        script(x, 1, 7031, 0);
        script(x, 1, 7999, 0);
        DogTrials y = Check.trial("T600d001");
        for (int k = 0; k < 20; k++) {
            y.run(0, 30);
            y.interfere(0, 0);
        }
        script(y, 1, 7600, NONE);
        script(y, 1, 7601, 0);
    }

    /** "8 0 x y: succeeds if just xy dogs are to run". */
    private static void justSoManyToRun() {
        DogTrials x = Check.trial(Check.TWELVE);
        for (int left = 12; left >= 0; left--) {
            for (int number = 0; number <= 14; number++) {
                script(x, 1, 8000 + number, number == left ? NONE : 0);
            }
            if (left > 0) {
                x.run(0, 1);
            }
        }
        x.interfere(7, 0);
        script(x, 1, 8001, NONE);
        script(x, 1, 8000, 0);
    }

    /** "9 0 0 w: succeeds if whyNot() is w". */
    private static void whyNotIsW() {
        Twins.Start[] starts = {() -> Check.trial("T060d001"), Twins.FRESH, Twins.DARK};
        for (int why = 0; why <= 2; why++) {
            DogTrials x = starts[why].make();
            for (int w = 0; w <= 9; w++) {
                script(x, 1, 9000 + w, w == why ? NONE : 0);
            }
        }
    }

    /** "also one with another digit where a 0 is written". */
    private static void anotherDigitWhereA0IsWritten() {
        DogTrials x = Check.trial("T060d001d102");
        script(x, 1, 2000, NONE);
        script(x, 1, 5000, NONE);
        script(x, 1, 8002, NONE);
        script(x, 1, 9000, NONE);
        for (int digit = 1; digit <= 9; digit++) {
            script(x, 1, 2000 + 100 * digit, 0);
            script(x, 1, 5000 + 100 * digit, 0);
            script(x, 1, 8002 + 100 * digit, 0);
            script(x, 1, 9000 + 100 * digit, 0);
            script(x, 1, 9000 + 10 * digit, 0);
        }
    }

    private static void fourCommandsOnOneCopy() {
        DogTrials x = Check.trial("T060d001d102");
        script(x, 4, 1001_3500_2000_8001L, NONE);
        script(x, 4, 1001_3500_2000_6100L, NONE);
        script(x, 4, 1001_3500_2000_2000L, 3);
        script(x, 4, 2000_2001_9001_1001L, 3);
        script(x, 4, 1030_4060_1030_7031L, 3);
        script(x, 4, 1030_4060_1030_7030L, NONE);
        script(x, 1, 8002, NONE);
    }

    /** "Runs a script on a copy of the state", also if a command fails. */
    private static void scriptsChangeNothing() {
        for (Twins.Start start : Twins.ALL) {
            Twins.keeps("runScript of a run", start, x -> x.runScript(1, 1130));
            Twins.keeps("runScript of withdrawals", start, x -> x.runScript(4, 2000_2001_2002_2003L));
            Twins.keeps("runScript of interferences", start, x -> x.runScript(4, 3000_3101_4060_1001L));
            Twins.keeps("runScript of days", start, x -> x.runScript(4, 4600_1030_1930_1230L));
            Twins.keeps("runScript that fails", start, x -> x.runScript(4, 4060_1030_0000_1230L));
        }
    }

    /** "m: number of rounds, 1 to 99". */
    private static void roundsAtTheirEdges() {
        DogTrials x = Check.trial(Check.TWELVE);
        Check.same("simulate(5, 1)", x.simulate(5, 1), played(Check.trial(Check.TWELVE), 5, 1));
        Check.same("simulate(5, 2)", x.simulate(5, 2), played(Check.trial(Check.TWELVE), 5, 2));
        Check.same("simulate(5, 98)", x.simulate(5, 98), played(Check.trial(Check.TWELVE), 5, 98));
        Check.same("simulate(5, 99)", x.simulate(5, 99), played(Check.trial(Check.TWELVE), 5, 99));
        int[] bad = {0, 100, -1, -99, Integer.MIN_VALUE, Integer.MAX_VALUE};
        for (int m : bad) {
            Check.badArgument("simulate(5, " + m + ")", () -> x.simulate(5, m));
            Check.badArgument("simulate(5, " + m + ") without dogs", () -> new DogTrials().simulate(5, m));
        }
    }

    /** Plays one round after another with the calls of the face; r is made with numbers of any length. */
    static int played(DogTrials x, long seed, int m) {
        BigInteger size = BigInteger.ONE.shiftLeft(64);
        BigInteger state = BigInteger.valueOf(seed).mod(size);
        for (int round = 0; round < m; round++) {
            state = state.multiply(BigInteger.valueOf(FACTOR)).add(BigInteger.valueOf(TERM)).mod(size);
            play(x, state.shiftRight(33).intValueExact());
        }
        int sum = 1000 * x.about(4);
        for (int i = 0; i < x.about(0); i++) {
            sum += x.dog(i, 4);
        }
        return sum;
    }

    private static void play(DogTrials x, int r) {
        int why = x.whyNot();
        int dogs = x.about(0);
        if (why == 2) {
            x.nextDay(60 + r / 8 % 541);
        } else if (why == 0) {
            int rest = r / 256;
            x.run(Check.points(rest % 21, rest % 11, rest % 21, rest % 31, rest % 11, rest % 11), 1 + r / 8 % 30);
        } else if (dogs > 0 && x.dog(r / 8 % dogs, 2) == 1) {
            x.interfere(r / 8 % dogs, r / 128 % 6);
        }
    }

    /** "seed: any long"; "with long overflow". */
    private static void seedsAtTheirEdges() {
        long[] seeds = {0, 1, -1, Long.MAX_VALUE, Long.MIN_VALUE, Long.MAX_VALUE - 1, Long.MIN_VALUE + 1, 1L << 33,
            (1L << 33) - 1, 1L << 32, 1L << 31, -(1L << 33), Integer.MAX_VALUE, Integer.MIN_VALUE};
        for (Twins.Start start : Twins.ALL) {
            for (long seed : seeds) {
                for (int m = 1; m <= 99; m += 14) {
                    Check.same("simulate(" + seed + ", " + m + ")", start.make().simulate(seed, m),
                        played(start.make(), seed, m));
                }
            }
        }
    }

    /** The seed from which the first x is this one. */
    private static long seedOf(long x) {
        BigInteger size = BigInteger.ONE.shiftLeft(64);
        BigInteger back = BigInteger.valueOf(FACTOR).modInverse(size);
        return BigInteger.valueOf(x).subtract(BigInteger.valueOf(TERM)).multiply(back).longValue();
    }

    /** "r = (int) (x >>> 33)" is from 0 to 2147483647, also if x is negative. */
    private static void smallestAndGreatestR() {
        DogTrials x = Check.trial("T060d001");
        Check.same("x = 0", x.simulate(seedOf(0), 1), 100);
        Check.same("x = 2^33 - 1", x.simulate(seedOf((1L << 33) - 1), 1), 100);
        // r / 256 = 8388607 leaves 10 of 21, 7 of 11 and 7 of 31
        Check.same("x = -1", x.simulate(seedOf(-1), 1), 100 - 10 - 7 - 10 - 7 - 7 - 7);
        // r / 256 = 4194303 leaves 15 of 21, 3 of 11 and 3 of 31
        Check.same("x = MAX", x.simulate(seedOf(Long.MAX_VALUE), 1), 100 - 15 - 3 - 15 - 3 - 3 - 3);
        // r / 256 = 4194304 leaves one more of each
        Check.same("x = MIN", x.simulate(seedOf(Long.MIN_VALUE), 1), 100 - 16 - 4 - 16 - 4 - 4 - 4);
    }

    private static void roundWithoutDogs() {
        DogTrials x = Check.trial("T300");
        Check.same("simulate(0, 99) without dogs", x.simulate(0, 99), 0);
        x.nextDay(60);
        Check.same("simulate(0, 99) on day 1", x.simulate(0, 99), 1000);
        DogTrials y = Check.trial("T300d001d102");
        y.withdraw(0);
        y.withdraw(1);
        Check.same("simulate(0, 99), all have withdrawn", y.simulate(0, 99), 0);
    }

    /** "If whyNot() is 2, the next day begins with the sunset 60 + r / 8 % 541", and nothing more in this round. */
    private static void roundOfADayThatIsOver() {
        DogTrials x = Twins.DARK.make();
        int sum = x.dog(0, 4) + x.dog(1, 4) + x.dog(2, 4);
        Check.same("one round", x.simulate(seedOf(0), 1), 1000 + sum);
        Check.same("one round of the greatest r", x.simulate(seedOf(-1), 1), 1000 + sum);
        for (int sunset = 60; sunset <= 600; sunset += 27) {
            long first = (sunset - 60) * 8L << 33;
            for (int m = 1; m <= 99; m += 7) {
                Check.same("sunset " + sunset + ", " + m, Twins.DARK.make().simulate(seedOf(first), m),
                    played(Twins.DARK.make(), seedOf(first), m));
            }
        }
    }

    /** "dog r / 8 % (number of dogs) is told to be interfered with in phase r / 128 % 6, if its state is 1". */
    private static void roundOfInterference() {
        DogTrials x = Check.trial("T300d001d102d203");
        x.run(0, 1);
        x.run(0, 1);
        x.withdraw(2);
        int[] worth = {100, 80, 70, 50, 20, 10};
        for (int r = 0; r < 128 * 6; r += 8) {
            int dog = r / 8 % 3;
            int due = dog == 2 ? 200 : 200 - worth[r / 128 % 6];
            Check.same("r = " + r, x.simulate(seedOf((long) r << 33), 1), due);
        }
        DogTrials y = Check.trial("T300d001");
        y.run(0, 1);
        Check.same("one dog, interfered with in phase 0", y.simulate(seedOf(0), 1), 0);
        y.interfere(0, 5);
        Check.same("it runs anew", y.simulate(seedOf(0), 1), 100);
    }

    /** "1000 * (the day) + (the sum of the scores of all dogs) at the end", also of withdrawn ones. */
    private static void simulatedDays() {
        DogTrials x = Check.trial("T060d001d102d203");
        x.run(0, 30);
        x.withdraw(0);
        for (int day = 1; day <= 20; day++) {
            x.nextDay(60);
            int got = x.simulate(day, 1);
            Check.same("the day " + day, got / 1000, day);
            Check.same("at least the withdrawn one", got % 1000 >= 100 ? 1 : 0, 1);
        }
    }

    private static void simulationsChangeNothing() {
        for (Twins.Start start : Twins.ALL) {
            Twins.keeps("simulate(0, 1)", start, x -> x.simulate(0, 1));
            Twins.keeps("simulate(-1, 99)", start, x -> x.simulate(-1, 99));
        }
    }
}

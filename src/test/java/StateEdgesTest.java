/** The edges of "Dogs", "The order", "Places" and of promises 6 to 11, each sentence in a method of its own. */
public final class StateEdgesTest {
    private static final int NONE = DogTrials.NONE;
    private static final int[] WORTH = {20, 10, 20, 30, 10, 10};

    public static void main(String[] args) {
        dogsToRunHaveTheState0Or2();
        dogsWithRunAreThoseThatCounted();
        dogsThatHaveWithdrawn();
        minuteAndSunsetAtTheirEdges();
        dogThatRanLast();
        runsTooDarkAndInterferencesSoFar();
        entriesOfTheRank();
        firstAndLastDog();
        statesOfADog();
        scoreIs0To100();
        scoreWithoutARun();
        phaseOfADog();
        placeIsNoneWithoutARun();
        placeInTheOrder();
        lostInEachPhase();
        lostFromThePhaseOn();
        orderOfNone();
        orderEndsWithNone();
        orderBeginsWithAnyOwner();
        orderAfterTheOneThatRanLast();
        orderIfAllAreOfThatOwner();
        orderOfState2ComesLast();
        orderOfState2AfterTheLastBefore();
        orderOfState2WithoutAnyBefore();
        smallestAndGreatestDraw();
        standingOfNone();
        standingEndsWithNone();
        standingOfSharedPlaces();
        withdrawnOnesKeepTheirPlaces();
        tieThatTheLastPhasesBreak();
        tieThatNothingBreaks();
        tieWithTheWholeWorth();
        scoreBeforeRank();
        ownerWithoutARun();
        ownerWithOneTwoAndThree();
        ownerWithEqualScores();
        questionsChangeNothing();
        Check.end();
    }

    private static long first(int points) {
        return Check.points(points, 0, 0, 0, 0, 0);
    }

    /** Twelve dogs that have run; dog i has the score 89 + i. */
    private static DogTrials twelveRun() {
        DogTrials x = Check.trial(Check.TWELVE);
        for (int i = 0; i < 12; i++) {
            x.run(first(11 - i), 1);
        }
        return x;
    }

    private static void dogsToRunHaveTheState0Or2() {
        DogTrials x = Check.trial(Check.TWELVE);
        for (int left = 12; left >= 1; left--) {
            Check.same("dogs that are to run", x.about(1), left);
            x.run(0, 1);
        }
        Check.same("none is to run", x.about(1), 0);
        for (int i = 0; i < 12; i++) {
            x.interfere(i, i % 6);
            Check.same("dogs that are to run anew", x.about(1), i + 1);
        }
        x.withdraw(3);
        Check.same("without the one that has withdrawn", x.about(1), 11);
    }

    /** A dog has a run from the first one that counts on, also if it is to run anew or withdraws. */
    private static void dogsWithRunAreThoseThatCounted() {
        DogTrials x = Check.trial("T060d001d102d203");
        Check.same("none has a run", x.about(2), 0);
        x.run(0, 30);
        Check.same("one has a run", x.about(2), 1);
        x.interfere(0, 0);
        Check.same("also if it is to run anew", x.about(2), 1);
        x.withdraw(0);
        Check.same("also if it has withdrawn", x.about(2), 1);
        x.withdraw(2);
        Check.same("not one that withdraws without", x.about(2), 1);
        x.run(0, 1);
        Check.same("two have a run", x.about(2), 2);
        x.enter(0, 9);
        x.run(0, 30);
        Check.same("not one for which it was too dark", x.about(2), 2);
        Check.same("dog(3, 3)", x.dog(3, 3), 0);
        Check.same("all of twelve", twelveRun().about(2), 12);
    }

    private static void dogsThatHaveWithdrawn() {
        DogTrials x = Check.trial(Check.TWELVE);
        for (int i = 0; i < 12; i++) {
            Check.same("withdrawn dogs", x.about(3), i);
            x.withdraw(i);
        }
        Check.same("all have withdrawn", x.about(3), 12);
        Check.same("all are still dogs", x.about(0), 12);
        Check.same("none is to run", x.whyNot(), 1);
    }

    /** "A day has a minute, at first 0, and a sunset, from 60 to 600, at first 300". */
    private static void minuteAndSunsetAtTheirEdges() {
        DogTrials x = new DogTrials();
        Check.same("minute at first", x.about(5), 0);
        Check.same("sunset at first", x.about(6), 300);
        x.nextDay(60);
        Check.same("the least sunset", x.about(6), 60);
        x.nextDay(600);
        Check.same("the greatest sunset", x.about(6), 600);
        DogTrials y = Check.trial(Check.TWELVE);
        for (int k = 0; k < 20; k++) {
            Check.same("minute " + 30 * k, y.about(5), 30 * k);
            y.run(0, 30);
            y.interfere(y.about(7), 0);
        }
        Check.same("20 runs of 30 minutes count up to 600", y.about(8), 20);
        Check.same("the minute 600", y.about(5), 600);
        Check.same("the day is over", y.whyNot(), 2);
    }

    private static void dogThatRanLast() {
        DogTrials x = Check.trial(Check.TWELVE);
        Check.same("none ran", x.about(7), NONE);
        for (int i = 0; i < 12; i++) {
            x.run(0, 1);
            Check.same("dog " + i + " ran last", x.about(7), i);
        }
        x.withdraw(11);
        x.nextDay(60);
        Check.same("also withdrawn and on another day", x.about(7), 11);
        x.interfere(0, 0);
        Check.same("interference is no run", x.about(7), 11);
    }

    private static void runsTooDarkAndInterferencesSoFar() {
        DogTrials x = Check.trial("T060d001d102");
        x.run(0, 30);
        x.interfere(0, 0);
        x.run(0, 30);
        x.interfere(1, 0);
        Check.same("runs that count", x.about(8), 2);
        Check.same("runs for which it was too dark", x.about(9), 0);
        x.nextDay(60);
        x.run(0, 30);
        x.interfere(0, 5);
        x.run(0, 29);
        x.run(0, 2);
        Check.same("runs that count, on all days", x.about(8), 4);
        Check.same("runs for which it was too dark then", x.about(9), 1);
        Check.same("interferences", x.about(10), 3);
        x.nextDay(60);
        Check.same("a new day counts on", 100 * x.about(8) + 10 * x.about(9) + x.about(10), 413);
        x.undo();
        x.undo();
        Check.same("before the run", 100 * x.about(8) + 10 * x.about(9) + x.about(10), 403);
    }

    private static void entriesOfTheRank() {
        DogTrials x = Check.trial("T300r350142");
        int[] due = {3, 5, 0, 1, 4, 2};
        for (int k = 0; k <= 5; k++) {
            Check.same("about(" + (11 + k) + ")", x.about(11 + k), due[k]);
        }
        x.setRank(254310);
        int[] then = {2, 5, 4, 3, 1, 0};
        for (int k = 0; k <= 5; k++) {
            Check.same("about(" + (11 + k) + ") then", x.about(11 + k), then[k]);
        }
    }

    /** "There are at most 12 dogs, numbered from 0 in the order in which they were entered". */
    private static void firstAndLastDog() {
        DogTrials x = Check.trial("T300d598");
        Check.same("owner of the only one", x.dog(0, 0), 5);
        Check.badIndex("dog(1, 0) of one", () -> x.dog(1, 0));
        Check.badIndex("lost(1, 0) of one", () -> x.lost(1, 0));
        for (int i = 1; i < 12; i++) {
            Check.same("number of dog " + i, x.enter(i % 6, 98 - i), i);
        }
        Check.same("draw of the first one", x.dog(0, 1), 98);
        Check.same("draw of the last one", x.dog(11, 1), 87);
        Check.badIndex("dog(12, 0) of twelve", () -> x.dog(12, 0));
        Check.badIndex("lost(12, 0) of twelve", () -> x.lost(12, 0));
    }

    /** "0: it has not run; 1: it has run; 2: it is to run anew; 3: it has withdrawn". */
    private static void statesOfADog() {
        DogTrials x = Check.trial("T300d001");
        Check.same("not run", x.dog(0, 2), 0);
        x.run(0, 1);
        Check.same("run", x.dog(0, 2), 1);
        x.interfere(0, 5);
        Check.same("to run anew", x.dog(0, 2), 2);
        x.run(0, 1);
        Check.same("run anew", x.dog(0, 2), 1);
        x.interfere(0, 0);
        x.withdraw(0);
        Check.same("withdrawn", x.dog(0, 2), 3);
        x.nextDay(60);
        Check.same("withdrawn on each day", x.dog(0, 2), 3);
    }

    private static void scoreIs0To100() {
        DogTrials x = Check.trial("T300d001d102d203d304");
        Check.same("nothing lost", x.run(0, 1), 100);
        Check.same("all lost", x.run(Check.points(20, 10, 20, 30, 10, 10), 1), 0);
        Check.same("one lost", x.run(Check.points(0, 0, 0, 0, 0, 1), 1), 99);
        Check.same("one not lost", x.run(Check.points(20, 10, 20, 29, 10, 10), 1), 1);
        int[] due = {100, 0, 99, 1};
        for (int i = 0; i < 4; i++) {
            Check.same("dog(" + i + ", 4)", x.dog(i, 4), due[i]);
            Check.same("place of dog " + i, x.dog(i, 6), new int[] {1, 4, 2, 3}[i]);
        }
    }

    /** "a dog without a run has the score 0". */
    private static void scoreWithoutARun() {
        DogTrials x = Check.trial("T060d001d102d203");
        x.withdraw(2);
        x.run(0, 30);
        x.nextDay(60);
        x.enter(4, 99);
        x.run(0, 30);
        x.enter(5, 50);
        x.withdraw(3);
        x.nextDay(60);
        for (int i = 2; i < 5; i++) {
            Check.same("dog(" + i + ", 3)", x.dog(i, 3), 0);
            Check.same("dog(" + i + ", 4)", x.dog(i, 4), 0);
        }
    }

    /** "6 if it does not; a dog that withdraws keeps this phase". */
    private static void phaseOfADog() {
        for (int phase = 0; phase <= 5; phase++) {
            DogTrials x = Check.trial("T300d001");
            Check.same("phase at first", x.dog(0, 5), 6);
            x.run(0, 1);
            Check.same("phase of one that has run", x.dog(0, 5), 6);
            x.interfere(0, phase);
            Check.same("phase", x.dog(0, 5), phase);
            int score = x.dog(0, 4);
            x.withdraw(0);
            Check.same("phase of one that has withdrawn", x.dog(0, 5), phase);
            Check.same("score of one that has withdrawn", x.dog(0, 4), score);
            x.undo();
            x.run(0, 1);
            Check.same("phase of one that has run anew", x.dog(0, 5), 6);
            x.withdraw(0);
            Check.same("phase of one that ran and withdrew", x.dog(0, 5), 6);
            Check.same("score of one that ran and withdrew", x.dog(0, 4), 100);
        }
    }

    private static void placeIsNoneWithoutARun() {
        DogTrials x = Check.trial("T060d001d102d203");
        x.run(Check.points(20, 10, 20, 30, 10, 10), 30);
        Check.same("place with a run and the score 0", x.dog(0, 6), 1);
        x.run(0, 29);
        x.run(0, 30);
        Check.same("place if it was too dark", x.dog(2, 6), NONE);
        Check.same("place of the last one", x.dog(0, 6), 2);
        x.withdraw(2);
        Check.same("place of one that withdraws without a run", x.dog(2, 6), NONE);
    }

    /** "its place in the order, from 0 on (NONE if it is not to run)". */
    private static void placeInTheOrder() {
        DogTrials x = Check.trial(Check.TWELVE);
        for (int i = 0; i < 12; i++) {
            Check.same("dog(" + i + ", 7)", x.dog(i, 7), i);
        }
        x.run(0, 1);
        Check.same("one that has run", x.dog(0, 7), NONE);
        x.withdraw(1);
        Check.same("one that has withdrawn", x.dog(1, 7), NONE);
        Check.same("the next one", x.dog(2, 7), 0);
        x.interfere(0, 3);
        Check.same("one that is to run anew is the last one", x.dog(0, 7), 10);
        x.withdraw(0);
        Check.same("one that was to run anew", x.dog(0, 7), NONE);
    }

    /** "The phases are worth 20, 10, 20, 30, 10 and 10 points; at most so many are lost in each". */
    private static void lostInEachPhase() {
        for (int phase = 0; phase <= 5; phase++) {
            long one = 1;
            for (int k = 5; k > phase; k--) {
                one *= 100;
            }
            for (int points = 0; points <= WORTH[phase]; points++) {
                DogTrials x = Check.trial("T300d001");
                Check.same("score", x.run(points * one, 1), 100 - points);
                for (int other = 0; other <= 5; other++) {
                    Check.same("lost(0, " + other + ")", x.lost(0, other), other == phase ? points : 0);
                }
            }
            long tooMany = (WORTH[phase] + 1) * one;
            Check.badArgument("one more in " + phase, () -> Check.trial("T300d001").run(tooMany, 1));
        }
    }

    /** "the whole worth of a phase that it is to run anew"; "NONE without a run". */
    private static void lostFromThePhaseOn() {
        for (int from = 0; from <= 5; from++) {
            DogTrials x = Check.trial("T300d001d102");
            x.run(Check.points(1, 2, 3, 4, 5, 6), 1);
            x.interfere(0, from);
            int score = 100;
            for (int phase = 0; phase <= 5; phase++) {
                int due = phase < from ? phase + 1 : WORTH[phase];
                score -= due;
                Check.same("from " + from + ", lost(0, " + phase + ")", x.lost(0, phase), due);
                Check.same("without a run, lost(1, " + phase + ")", x.lost(1, phase), NONE);
            }
            Check.same("from " + from + ", score", x.dog(0, 4), score);
            x.withdraw(1);
            Check.same("withdrawn without a run", x.lost(1, from), NONE);
        }
    }

    private static void orderOfNone() {
        Check.order("no dogs", new DogTrials());
        Check.order("all have run", twelveRun());
        DogTrials x = Check.trial("T300d001");
        x.withdraw(0);
        Check.order("all have withdrawn", x);
    }

    /** "NONE if there are not so many". */
    private static void orderEndsWithNone() {
        DogTrials x = Check.trial(Check.TWELVE);
        Check.same("order(0)", x.order(0), 0);
        Check.same("order(11)", x.order(11), 11);
        Check.same("order(12)", x.order(12), NONE);
        Check.same("order(13)", x.order(13), NONE);
        Check.same("order(MAX)", x.order(Integer.MAX_VALUE), NONE);
        x.withdraw(5);
        Check.same("order(10) without one", x.order(10), 11);
        Check.same("order(11) without one", x.order(11), NONE);
    }

    /** "no such dog: any owner": the smallest draw is the first one, whoever owns it. */
    private static void orderBeginsWithAnyOwner() {
        for (int owner = 0; owner <= 5; owner++) {
            String other = "d" + (owner + 1) % 6 + "10";
            Check.order("owner " + owner, Check.trial("T300" + other + "d" + owner + "05d" + owner + "07"), 1, 0, 2);
        }
    }

    /** "the one that ran last on any day, for the first one, also if it has withdrawn or that run did not count". */
    private static void orderAfterTheOneThatRanLast() {
        DogTrials x = Check.trial("T060d001d002d109");
        x.run(0, 30);
        Check.order("another owner than that of dog 0", x, 2, 1);
        x.withdraw(0);
        Check.order("also if dog 0 has withdrawn", x, 2, 1);
        x.nextDay(600);
        Check.order("also on another day", x, 2, 1);
        DogTrials y = Check.trial("T060d001d002d109");
        y.run(0, 30);
        y.run(0, 30);
        y.interfere(0, 0);
        y.nextDay(60);
        y.run(0, 30);
        y.enter(3, 50);
        y.run(0, 29);
        Check.order("dog 3 ran last", y, 0);
        y.enter(3, 51);
        y.enter(4, 60);
        Check.same("too dark", y.run(0, 2), NONE);
        Check.order("that run did not count", y, 4, 5, 0);
        y.withdraw(5);
        Check.order("the owner of dog 5, which has withdrawn", y, 4, 0);
        DogTrials z = Check.trial("T060d001d002d109d010");
        z.run(0, 30);
        z.run(0, 29);
        z.run(0, 2);
        Check.order("dog 1 ran last, but all are of its owner", z, 1, 3);
    }

    /** "if they are all of that owner, the one with the smallest draw". */
    private static void orderIfAllAreOfThatOwner() {
        DogTrials x = Check.trial("T300d203d299d201d202");
        Check.order("all of one owner", x, 2, 3, 0, 1);
        x.run(0, 1);
        Check.order("all of the owner of the one that ran last", x, 3, 0, 1);
        x.enter(1, 98);
        Check.order("but for one", x, 4, 3, 0, 1);
        Check.order("that owner is left over", Check.trial("T300d201d202d203d104d105d206"), 0, 3, 1, 4, 2, 5);
    }

    /** "The dogs that are to run are those with the state 0, and then those with the state 2". */
    private static void orderOfState2ComesLast() {
        DogTrials x = Check.trial("T300d001d102d299d398");
        x.run(0, 1);
        x.run(0, 1);
        x.interfere(0, 0);
        x.interfere(1, 5);
        Check.order("the state 2 after the state 0", x, 3, 2, 0, 1);
        x.run(0, 1);
        x.run(0, 1);
        Check.order("the state 2 alone", x, 0, 1);
        x.enter(0, 97);
        Check.order("a new one is ahead", x, 4, 1, 0);
    }

    /** "the last dog before counting for the first one of them". */
    private static void orderOfState2AfterTheLastBefore() {
        DogTrials x = Check.trial("T300d001d102d050");
        x.run(0, 1);
        x.run(0, 1);
        x.interfere(0, 0);
        x.interfere(1, 0);
        Check.order("dog 2 is of owner 0", x, 2, 1, 0);
        x.setDraw(0, 3);
        x.enter(1, 51);
        Check.order("dog 3 is of owner 1", x, 2, 3, 0, 1);
        x.enter(0, 52);
        Check.order("dog 4 is of owner 0", x, 2, 3, 4, 1, 0);
    }

    /** "without any before, the one that ran last on any day". */
    private static void orderOfState2WithoutAnyBefore() {
        DogTrials x = Check.trial("T300d001d102d003");
        x.run(0, 1);
        x.run(0, 1);
        x.run(0, 1);
        x.interfere(0, 0);
        x.interfere(1, 0);
        Check.order("dog 2 of owner 0 ran last", x, 1, 0);
        x.nextDay(60);
        x.withdraw(2);
        Check.order("also withdrawn and on another day", x, 1, 0);
        x.run(0, 1);
        x.interfere(1, 0);
        Check.order("dog 1 itself ran last", x, 0, 1);
        x.withdraw(0);
        Check.order("it alone", x, 1);
    }

    private static void smallestAndGreatestDraw() {
        DogTrials x = Check.trial("T300d099d198d202d301");
        Check.order("draws 1 to 99", x, 3, 2, 1, 0);
        x.setDraw(0, 50);
        x.setDraw(3, 99);
        Check.order("draws exchanged", x, 2, 0, 1, 3);
    }

    private static void standingOfNone() {
        Check.standing("no dogs", new DogTrials());
        Check.standing("no runs", Check.trial(Check.TWELVE));
    }

    /** "NONE if there are not so many". */
    private static void standingEndsWithNone() {
        DogTrials x = twelveRun();
        Check.same("standing(0)", x.standing(0), 11);
        Check.same("standing(11)", x.standing(11), 0);
        Check.same("standing(12)", x.standing(12), NONE);
        Check.same("standing(MAX)", x.standing(Integer.MAX_VALUE), NONE);
        DogTrials y = Check.trial(Check.TWELVE);
        y.run(0, 1);
        Check.same("standing(0) of one", y.standing(0), 0);
        Check.same("standing(1) of one", y.standing(1), NONE);
    }

    /** "with the same place, by their draws": all twelve share the place 1. */
    private static void standingOfSharedPlaces() {
        DogTrials x = Check.trial("T600d012d111d210d309d408d507d006d105d204d303d402d501");
        for (int k = 0; k < 12; k++) {
            x.run(Check.points(1, 2, 3, 4, 5, 6), 1);
        }
        Check.standing("all alike", x, 11, 10, 9, 8, 7, 6, 5, 4, 3, 2, 1, 0);
        for (int i = 0; i < 12; i++) {
            Check.same("place of dog " + i, x.dog(i, 6), 1);
        }
        x.setDraw(11, 99);
        x.withdraw(0);
        Check.standing("another draw", x, 10, 9, 8, 7, 6, 5, 4, 3, 2, 1, 0, 11);
        x.interfere(5, 5);
        Check.same("place of dog 5", x.dog(5, 6), 12);
        Check.same("the others share the first one", x.dog(11, 6), 1);
        Check.standing("dog 5 is the last one", x, 10, 9, 8, 7, 6, 4, 3, 2, 1, 0, 11, 5);
    }

    /** "withdrawn dogs with a run count as they are". */
    private static void withdrawnOnesKeepTheirPlaces() {
        DogTrials x = twelveRun();
        for (int i = 0; i < 12; i++) {
            x.withdraw(i);
            Check.same("place of dog " + i, x.dog(i, 6), 12 - i);
        }
        Check.standing("all have withdrawn", x, 11, 10, 9, 8, 7, 6, 5, 4, 3, 2, 1, 0);
        DogTrials y = twelveRun();
        y.interfere(11, 0);
        y.withdraw(11);
        Check.same("withdrawn with the score 0", y.dog(11, 6), 12);
        Check.same("the one that was second", y.dog(10, 6), 1);
    }

    /** "the first phase of the rank in which both have not lost the same": here the last but one. */
    private static void tieThatTheLastPhasesBreak() {
        DogTrials x = Check.trial("T300d001d102");
        x.run(Check.points(1, 1, 1, 1, 5, 6), 1);
        x.run(Check.points(1, 1, 1, 1, 6, 5), 1);
        Check.standing("phase 4 before phase 5", x, 0, 1);
        Check.same("both places change", x.setRank(12354), 2);
        Check.standing("phase 5 before phase 4", x, 1, 0);
        Check.same("none changes", x.setRank(501234), 0);
        Check.same("both change again", x.setRank(401235), 2);
        Check.standing("phase 4 first", x, 0, 1);
    }

    private static void tieThatNothingBreaks() {
        DogTrials x = Check.trial("T300d002d101d203");
        x.run(Check.points(1, 2, 3, 4, 5, 6), 1);
        x.run(Check.points(1, 2, 3, 4, 5, 6), 1);
        x.run(Check.points(1, 2, 3, 4, 5, 7), 1);
        Check.same("place of dog 0", x.dog(0, 6), 1);
        Check.same("place of dog 1", x.dog(1, 6), 1);
        Check.same("the place after two", x.dog(2, 6), 3);
        Check.standing("by draws", x, 1, 0, 2);
        Check.same("no rank breaks it", x.setRank(543210), 0);
    }

    /** "in a phase that it is to run anew, its whole worth", not what was noted there. */
    private static void tieWithTheWholeWorth() {
        DogTrials x = Check.trial("T300d001d102d203");
        x.run(Check.points(0, 0, 0, 0, 0, 0), 1);
        x.run(Check.points(0, 0, 0, 0, 10, 10), 1);
        x.run(Check.points(0, 0, 0, 0, 9, 10), 1);
        x.interfere(0, 4);
        Check.same("same score as dog 1", x.dog(0, 4), 80);
        Check.same("place of dog 0", x.dog(0, 6), 2);
        Check.same("place of dog 1", x.dog(1, 6), 2);
        x.withdraw(0);
        Check.same("withdrawn, place of dog 0", x.dog(0, 6), 2);
        Check.same("then, place of dog 1", x.dog(1, 6), 2);
        Check.same("no rank breaks it", x.setRank(543210), 0);
    }

    /** "A dog is better than another one if its score is greater", whatever the rank says. */
    private static void scoreBeforeRank() {
        DogTrials x = Check.trial("T300d001d102r012345");
        x.run(Check.points(1, 0, 0, 0, 0, 0), 1);
        x.run(Check.points(0, 0, 0, 0, 0, 2), 1);
        Check.standing("99 before 98", x, 0, 1);
        Check.same("no rank changes it", x.setRank(501234), 0);
    }

    private static void ownerWithoutARun() {
        DogTrials x = Check.trial("T300d001d502");
        Check.same("owner(0)", x.owner(0), 0);
        Check.same("owner(5)", x.owner(5), 0);
        Check.same("owner(3) without a dog", x.owner(3), 0);
        x.withdraw(0);
        Check.same("owner(0) of one that has withdrawn", x.owner(0), 0);
    }

    /** "the sum of the two greatest scores ... (of one, if there is only one; 0 without any)". */
    private static void ownerWithOneTwoAndThree() {
        int[][] orders = {{10, 5, 1}, {10, 1, 5}, {5, 10, 1}, {5, 1, 10}, {1, 10, 5}, {1, 5, 10}};
        for (int[] lost : orders) {
            DogTrials x = Check.trial("T300d501d502d503");
            x.run(first(lost[0]), 1);
            Check.same("with one", x.owner(5), 100 - lost[0]);
            x.run(first(lost[1]), 1);
            Check.same("with two", x.owner(5), 200 - lost[0] - lost[1]);
            x.run(first(lost[2]), 1);
            Check.same("with three", x.owner(5), 194);
            x.withdraw(0);
            x.withdraw(1);
            x.withdraw(2);
            Check.same("also withdrawn ones", x.owner(5), 194);
            Check.same("another owner", x.owner(4), 0);
        }
    }

    private static void ownerWithEqualScores() {
        DogTrials x = Check.trial("T300d001d002d003");
        x.run(0, 1);
        x.run(0, 1);
        Check.same("twice 100", x.owner(0), 200);
        x.run(0, 1);
        Check.same("three times 100", x.owner(0), 200);
        x.interfere(0, 0);
        Check.same("twice 100 and 0", x.owner(0), 200);
        x.interfere(1, 0);
        Check.same("100 and twice 0", x.owner(0), 100);
        x.interfere(2, 0);
        Check.same("three times 0", x.owner(0), 0);
    }

    private static void questionsChangeNothing() {
        for (Twins.Start start : Twins.ALL) {
            Twins.keeps("about()", start, x -> x.about(7));
            Twins.keeps("order(0)", start, x -> x.order(0));
            Twins.keeps("standing(0)", start, x -> x.standing(0));
            Twins.keeps("owner(5)", start, x -> x.owner(5));
            if (start.make().about(0) > 0) {
                Twins.keeps("dog(0, 7)", start, x -> x.dog(0, 7));
                Twins.keeps("dog(0, 6)", start, x -> x.dog(0, 6));
                Twins.keeps("lost(0, 5)", start, x -> x.lost(0, 5));
            }
        }
    }
}

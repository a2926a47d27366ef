/** The edges of promises 20 to 24, each sentence in a method of its own. */
public final class ForecastEdgesTest {
    private static final int NONE = DogTrials.NONE;
    private static final long MOST_POINTS = 201020301010L;

    public static void main(String[] args) {
        noDogToRunComesBeforeTheDayThatIsOver();
        dayIsOverAtItsSunset();
        runsLeftAtTheEdgesOfTheMinutes();
        runsLeftUpToTheSunset();
        runsLeftOfTheDogsThatAreToRun();
        runsLeftOfADayThatIsOver();
        bestPlaceOfOneThatIsToRun();
        bestPlaceOfOneThatRunsAnew();
        bestPlaceOfOneThatIsNotToRun();
        bestPlaceCanBeTheTwelfth();
        bestPlaceAlsoIfTheDayIsOver();
        bestPlaceByTheRank();
        mayLoseAtTheEdgesOfThePlace();
        mayLoseAllOrNothing();
        mayLoseThePhasesThatItWouldRun();
        mayLoseUpToTheSameScore();
        mayLoseOfOneThatIsNotToRun();
        mayLoseIfThereIsNone();
        mayLoseWithoutRegardToTies();
        contendersFromNoneToTwelve();
        contendersWithASharedPlace();
        contendersThatHaveWithdrawn();
        forecastsChangeNothing();
        Check.end();
    }

    private static long first(int points) {
        return Check.points(points, 0, 0, 0, 0, 0);
    }

    /** "Returns 1 if no dog is to run; 2 if the day is over": 1, if both are so. */
    private static void noDogToRunComesBeforeTheDayThatIsOver() {
        DogTrials x = Check.trial("T060d001d102");
        x.run(0, 30);
        x.run(0, 30);
        Check.same("both", x.whyNot(), 1);
        x.enter(3, 99);
        Check.same("the day is over", x.whyNot(), 2);
        x.withdraw(2);
        Check.same("both again", x.whyNot(), 1);
        x.nextDay(60);
        Check.same("no dog is to run", x.whyNot(), 1);
        x.interfere(0, 5);
        Check.same("one is to run anew", x.whyNot(), 0);
        Check.same("no dogs", new DogTrials().whyNot(), 1);
    }

    private static void dayIsOverAtItsSunset() {
        DogTrials x = Check.trial("T060d001d102d203d304");
        x.run(0, 30);
        x.run(0, 29);
        Check.same("one minute before", x.whyNot(), 0);
        x.run(0, 1);
        Check.same("at its sunset", x.whyNot(), 2);
        x.undo();
        x.run(0, 30);
        Check.same("at its sunset, as it was too dark", x.whyNot(), 2);
    }

    private static void runsLeftAtTheEdgesOfTheMinutes() {
        DogTrials x = Check.trial("T060d001d102d203");
        Check.same("runsLeft(1)", x.runsLeft(1), 3);
        Check.same("runsLeft(30)", x.runsLeft(30), 2);
        int[] bad = {0, 31, -1, -30, Integer.MIN_VALUE, Integer.MAX_VALUE};
        for (int minutes : bad) {
            Check.badArgument("runsLeft(" + minutes + ")", () -> x.runsLeft(minutes));
            Check.badArgument("runsLeft(" + minutes + ") without dogs", () -> new DogTrials().runsLeft(minutes));
        }
    }

    /** A run counts up to the sunset itself; the runs are made here, too. */
    private static void runsLeftUpToTheSunset() {
        for (int sunset = 60; sunset <= 130; sunset++) {
            for (int minutes = 5; minutes <= 30; minutes++) {
                String day = "T" + sunset / 100 + sunset / 10 % 10 + sunset % 10;
                DogTrials x = Check.trial(day + Check.TWELVE.substring(4));
                int left = x.runsLeft(minutes);
                int made = 0;
                while (x.whyNot() == 0 && x.run(0, minutes) != NONE) {
                    made++;
                    Check.same("runsLeft(" + minutes + ") then", x.runsLeft(minutes), left - made);
                }
                Check.same("runsLeft(" + minutes + ") of " + sunset, left, made);
            }
        }
    }

    /** "how many of the dogs that are to run". */
    private static void runsLeftOfTheDogsThatAreToRun() {
        DogTrials x = Check.trial(Check.TWELVE);
        Check.same("all twelve", x.runsLeft(30), 12);
        x.run(0, 1);
        Check.same("eleven", x.runsLeft(30), 11);
        x.interfere(0, 0);
        Check.same("twelve with one anew", x.runsLeft(30), 12);
        x.withdraw(0);
        x.withdraw(1);
        Check.same("ten", x.runsLeft(30), 10);
        Check.same("no dogs", new DogTrials().runsLeft(1), 0);
        Check.same("none to run", Twins.IDLE.make().runsLeft(1), 0);
    }

    private static void runsLeftOfADayThatIsOver() {
        DogTrials x = Check.trial("T060d001d102d203");
        x.run(0, 30);
        x.run(0, 29);
        Check.same("runsLeft(1) of one minute", x.runsLeft(1), 1);
        Check.same("runsLeft(2) of one minute", x.runsLeft(2), 0);
        x.run(0, 2);
        Check.same("runsLeft(1) of none", x.runsLeft(1), 0);
        Check.same("runsLeft(30) of none", x.runsLeft(30), 0);
    }

    /** "the place that it would have if it is to run and lost no more points". */
    private static void bestPlaceOfOneThatIsToRun() {
        DogTrials x = Check.trial("T600d001d102d203d304");
        Check.same("without any run", x.bestPlace(3), 1);
        x.run(first(1), 1);
        Check.same("ahead of 99", x.bestPlace(3), 1);
        x.run(0, 1);
        Check.same("as good as 100", x.bestPlace(3), 1);
        x.withdraw(1);
        Check.same("as good as a withdrawn 100", x.bestPlace(3), 1);
    }

    /** "in the phases that it would run": what it has lost before stays lost. */
    private static void bestPlaceOfOneThatRunsAnew() {
        DogTrials x = Check.trial("T600d001d102d203");
        x.run(Check.points(1, 2, 3, 4, 5, 6), 1);
        x.run(Check.points(1, 2, 0, 0, 0, 0), 1);
        x.run(Check.points(1, 0, 0, 0, 0, 0), 1);
        // the others have 97 and 99; from phase 1 on it can reach 99, from phase 2 on 97, both with the same losses
        int[] due = {1, 1, 2, 3, 3, 3};
        for (int phase = 0; phase <= 5; phase++) {
            x.interfere(0, phase);
            Check.same("from phase " + phase, x.bestPlace(0), due[phase]);
            x.undo();
        }
    }

    /** "its place, if it is not to run; NONE if it has withdrawn without a run". */
    private static void bestPlaceOfOneThatIsNotToRun() {
        DogTrials x = Check.trial("T600d001d102d203");
        x.run(first(5), 1);
        x.run(0, 1);
        Check.same("it has run", x.bestPlace(0), 2);
        x.interfere(0, 0);
        x.withdraw(0);
        Check.same("withdrawn with a run", x.bestPlace(0), 2);
        x.withdraw(2);
        Check.same("withdrawn without a run", x.bestPlace(2), NONE);
        Check.badIndex("bestPlace(3)", () -> x.bestPlace(3));
        Check.badIndex("bestPlace(-1)", () -> x.bestPlace(-1));
    }

    private static void bestPlaceCanBeTheTwelfth() {
        DogTrials x = Check.trial(Check.TWELVE);
        x.run(MOST_POINTS, 1);
        for (int i = 1; i < 12; i++) {
            x.run(first(i), 1);
        }
        Check.same("the last one", x.bestPlace(0), 12);
        x.interfere(0, 5);
        Check.same("the last one, if it runs anew from phase 5 on", x.bestPlace(0), 12);
        x.run(MOST_POINTS, 1);
        x.interfere(0, 0);
        Check.same("from phase 0 on", x.bestPlace(0), 1);
        Check.same("the last but one", x.bestPlace(11), 11);
        Check.badIndex("bestPlace(12)", () -> x.bestPlace(12));
    }

    private static void bestPlaceAlsoIfTheDayIsOver() {
        DogTrials x = Twins.DARK.make();
        Check.same("the day is over", x.whyNot(), 2);
        Check.same("one that has not run", x.bestPlace(2), 1);
        // both would have 93, and dog 0 lost nothing in phase 2
        Check.same("one that is to run anew", x.bestPlace(0), 1);
        x.setRank(354210);
        Check.same("with phase 3 first", x.bestPlace(0), 2);
        Check.same("one that has run", x.bestPlace(1), 1);
    }

    /** Places are told with the rank: dog 0 could reach the score of dog 1, but not its place by the first rank. */
    private static void bestPlaceByTheRank() {
        DogTrials x = Check.trial("T600d001d102");
        x.run(first(3), 1);
        x.run(Check.points(0, 3, 0, 0, 0, 0), 1);
        x.interfere(0, 1);
        Check.same("phase 0 first", x.bestPlace(0), 2);
        Check.same("it stands behind now", x.setRank(102345), 0);
        Check.same("phase 1 first", x.bestPlace(0), 1);
    }

    private static void mayLoseAtTheEdgesOfThePlace() {
        DogTrials x = Check.trial(Check.TWELVE);
        for (int i = 0; i < 11; i++) {
            x.run(first(i), 1);
        }
        for (int place = 1; place <= 11; place++) {
            Check.same("mayLose(11, " + place + ")", x.mayLose(11, place), place - 1);
        }
        Check.same("mayLose(11, 12)", x.mayLose(11, 12), 100);
        int[] bad = {0, 13, -1, Integer.MIN_VALUE, Integer.MAX_VALUE};
        for (int place : bad) {
            Check.badArgument("mayLose(11, " + place + ")", () -> x.mayLose(11, place));
            Check.badArgument("mayLose(0, " + place + "), not to run", () -> x.mayLose(0, place));
            Check.badIndex("mayLose(12, " + place + ")", () -> x.mayLose(12, place));
            Check.badIndex("mayLose(-1, " + place + ")", () -> x.mayLose(-1, place));
        }
    }

    private static void mayLoseAllOrNothing() {
        DogTrials x = Check.trial("T300d001d102d203");
        Check.same("all, without other runs", x.mayLose(2, 1), 100);
        x.run(MOST_POINTS, 1);
        Check.same("all, as no score is greater than 0", x.mayLose(2, 1), 100);
        x.run(Check.points(20, 10, 20, 30, 10, 9), 1);
        Check.same("all but one", x.mayLose(2, 1), 99);
        Check.same("all, if one may be better", x.mayLose(2, 2), 100);
        x.interfere(0, 0);
        x.run(first(0), 1);
        x.interfere(1, 0);
        Check.same("all, as one is better at least", x.mayLose(1, 1), 100 - x.dog(2, 4));
        DogTrials y = Check.trial("T300d001d102");
        y.run(0, 1);
        Check.same("nothing", y.mayLose(1, 1), 0);
    }

    /** "in the phases that it would run": at most their worth. */
    private static void mayLoseThePhasesThatItWouldRun() {
        int[] due = {100, 80, 70, 50, 20, 10};
        for (int phase = 0; phase <= 5; phase++) {
            DogTrials x = Check.trial("T300d001d102");
            x.run(Check.points(0, 0, 0, 0, 0, 0), 1);
            x.interfere(0, phase);
            Check.same("from phase " + phase, x.mayLose(0, 1), due[phase]);
            x.run(Check.points(1, 1, 1, 1, 1, 1), 1);
            Check.same("against 94", x.mayLose(0, 1), 6);
            Check.same("for place 2", x.mayLose(0, 2), due[phase]);
            Check.same("for a place behind all dogs", x.mayLose(0, 3), due[phase]);
            Check.same("for the last place", x.mayLose(0, 12), due[phase]);
        }
    }

    /** "no more than place - 1 dogs have a score greater than its score then": the same score is not greater. */
    private static void mayLoseUpToTheSameScore() {
        DogTrials x = Check.trial("T300d001d102d203d304");
        x.run(first(7), 1);
        x.run(first(7), 1);
        x.run(first(9), 1);
        Check.same("as good as both", x.mayLose(3, 1), 7);
        Check.same("place 2 is none", x.mayLose(3, 2), 7);
        Check.same("as good as the third", x.mayLose(3, 3), 9);
        Check.same("behind all", x.mayLose(3, 4), 100);
    }

    /** "NONE if it is not to run". */
    private static void mayLoseOfOneThatIsNotToRun() {
        DogTrials x = Check.trial("T300d001d102");
        x.run(0, 1);
        x.withdraw(1);
        for (int place = 1; place <= 12; place++) {
            Check.same("it has run", x.mayLose(0, place), NONE);
            Check.same("it has withdrawn without a run", x.mayLose(1, place), NONE);
        }
        x.interfere(0, 0);
        x.withdraw(0);
        Check.same("it was to run anew", x.mayLose(0, 1), NONE);
    }

    /** "or if there is none": what it lost before is too much. */
    private static void mayLoseIfThereIsNone() {
        DogTrials x = Check.trial("T300d001d102d203");
        x.run(first(5), 1);
        x.run(first(4), 1);
        x.run(first(5), 1);
        x.interfere(0, 1);
        Check.same("one is better at least", x.mayLose(0, 1), NONE);
        Check.same("as good as the second", x.mayLose(0, 2), 0);
        Check.same("behind both", x.mayLose(0, 3), 80);
        x.withdraw(1);
        Check.same("also a withdrawn one is better", x.mayLose(0, 1), NONE);
    }

    private static void mayLoseWithoutRegardToTies() {
        DogTrials x = Check.trial("T300d001d102");
        x.run(Check.points(5, 0, 0, 0, 0, 0), 1);
        x.run(Check.points(0, 0, 0, 0, 0, 5), 1);
        x.interfere(0, 5);
        Check.same("the same score", x.mayLose(0, 1), 0);
        Check.same("but another place", x.bestPlace(0), 2);
    }

    private static void contendersFromNoneToTwelve() {
        Check.same("no dogs", new DogTrials().contenders(), 0);
        DogTrials x = Check.trial(Check.TWELVE);
        Check.same("all twelve", x.contenders(), 12);
        for (int i = 0; i < 12; i++) {
            x.withdraw(i);
            Check.same("without " + (i + 1), x.contenders(), 11 - i);
        }
    }

    private static void contendersWithASharedPlace() {
        DogTrials x = Check.trial(Check.TWELVE);
        for (int i = 0; i < 12; i++) {
            x.run(first(3), 1);
        }
        Check.same("all twelve share the first place", x.contenders(), 12);
        x.interfere(4, 5);
        Check.same("also with one anew", x.contenders(), 12);
        x.run(1, 1);
        Check.same("but for one", x.contenders(), 11);
    }

    /** bestPlace() is the place of a dog that has withdrawn with a run. */
    private static void contendersThatHaveWithdrawn() {
        DogTrials x = Check.trial("T300d001d102d203");
        x.run(first(1), 1);
        x.run(first(2), 1);
        x.withdraw(0);
        Check.same("a withdrawn one and one that is to run", x.contenders(), 2);
        x.withdraw(2);
        Check.same("the withdrawn one alone", x.contenders(), 1);
    }

    private static void forecastsChangeNothing() {
        for (Twins.Start start : Twins.ALL) {
            Twins.keeps("whyNot()", start, DogTrials::whyNot);
            Twins.keeps("runsLeft(7)", start, x -> x.runsLeft(7));
            Twins.keeps("contenders()", start, DogTrials::contenders);
            for (int i = 0; i < start.make().about(0); i++) {
                int dog = i;
                Twins.keeps("bestPlace(" + i + ")", start, x -> x.bestPlace(dog));
                Twins.keeps("mayLose(" + i + ", 1)", start, x -> x.mayLose(dog, 1));
            }
        }
    }
}

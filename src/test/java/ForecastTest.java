/** Promises 20 to 24: what would be. */
public final class ForecastTest {
    public static void main(String[] args) {
        promise20();
        promise21();
        promise22();
        promise22OfTies();
        promise23();
        promise23OfAnewRuns();
        promise24();
        nothingChanges();
        Check.end();
    }

    private static void promise20() {
        DogTrials x = Check.trial("T060");
        Check.same("no dog", x.whyNot(), 1);
        x.enter(0, 1);
        Check.same("one dog", x.whyNot(), 0);
        x.run(0, 30);
        Check.same("it has run", x.whyNot(), 1);
        x.interfere(0, 0);
        Check.same("it is to run anew", x.whyNot(), 0);
        x.run(0, 30);
        Check.same("no dog, and the day is over", x.whyNot(), 1);
        x.interfere(0, 0);
        Check.same("the day is over", x.whyNot(), 2);
        x.nextDay(60);
        Check.same("the next day", x.whyNot(), 0);
        x.withdraw(0);
        Check.same("it has withdrawn", x.whyNot(), 1);
    }

    private static void promise21() {
        DogTrials x = Check.trial("T060d001d102d203");
        int[] minutes = {1, 20, 21, 30};
        int[] due = {3, 3, 2, 2};
        for (int k = 0; k < minutes.length; k++) {
            Check.same("runsLeft(" + minutes[k] + ")", x.runsLeft(minutes[k]), due[k]);
        }
        x.run(0, 10);
        Check.same("runsLeft(25) of 50", x.runsLeft(25), 2);
        Check.same("runsLeft(26) of 50", x.runsLeft(26), 1);
        x.interfere(0, 3);
        Check.same("runsLeft(16) with one anew", x.runsLeft(16), 3);
        Check.same("runsLeft(17) with one anew", x.runsLeft(17), 2);
        x.withdraw(1);
        Check.same("runsLeft(1) of two", x.runsLeft(1), 2);
        x.run(0, 30);
        Check.same("runsLeft(20) of 20", x.runsLeft(20), 1);
        Check.same("runsLeft(21) of 20", x.runsLeft(21), 0);
        x.run(0, 30);
        Check.same("runsLeft(1) of a day that is over", x.runsLeft(1), 0);
        Check.badArgument("runsLeft(0)", () -> x.runsLeft(0));
        Check.badArgument("runsLeft(31)", () -> x.runsLeft(31));
        Check.badArgument("runsLeft(-1)", () -> x.runsLeft(-1));
    }

    private static void promise22() {
        DogTrials x = Check.trial("T300d001d102d203d304d405");
        x.run(0, 5);
        x.run(Check.points(1, 0, 0, 0, 0, 0), 5);
        x.run(Check.points(2, 0, 0, 9, 9, 9), 5);
        x.interfere(2, 3);
        Check.same("its place, if it has run", x.bestPlace(1), 2);
        Check.same("it has not run", x.bestPlace(3), 1);
        Check.same("it runs anew", x.bestPlace(2), 3);
        x.withdraw(2);
        Check.same("withdrawn with a run", x.bestPlace(2), 3);
        x.withdraw(4);
        Check.same("withdrawn without a run", x.bestPlace(4), DogTrials.NONE);
        x.withdraw(0);
        x.interfere(1, 0);
        Check.same("all phases anew", x.bestPlace(1), 1);
        Check.badIndex("bestPlace(5)", () -> x.bestPlace(5));
        Check.badIndex("bestPlace(-1)", () -> x.bestPlace(-1));
        DogTrials y = Check.trial("T060d001d102");
        y.run(0, 30);
        y.interfere(0, 0);
        y.run(Check.points(1, 1, 1, 1, 1, 1), 30);
        Check.same("also if the day is over", y.bestPlace(0), 1);
        Check.same("the other one stays as it is", y.bestPlace(1), 1);
    }

    private static void promise22OfTies() {
        DogTrials x = Check.trial("T300d001d102d203");
        x.run(Check.points(0, 1, 0, 0, 0, 0), 5);
        x.run(Check.points(1, 0, 0, 0, 5, 0), 5);
        x.interfere(1, 4);
        Check.same("phase 0 decides", x.bestPlace(1), 2);
        x.setRank(543210);
        Check.same("phase 1 decides", x.bestPlace(1), 1);
        x.run(Check.points(1, 0, 0, 0, 0, 0), 5);
        Check.same("a shared place", x.bestPlace(1), 1);
        Check.same("its place now", x.dog(1, 6), 3);
    }

    private static void promise23() {
        DogTrials x = Check.trial("T300d001d102d203");
        Check.same("no other run", x.mayLose(0, 1), 100);
        x.run(Check.points(10, 0, 0, 0, 0, 0), 5);
        Check.same("as good as 90", x.mayLose(1, 1), 10);
        Check.same("one may be better", x.mayLose(1, 2), 100);
        Check.same("it has run", x.mayLose(0, 1), DogTrials.NONE);
        x.run(Check.points(20, 0, 0, 0, 0, 0), 5);
        Check.same("as good as 90 of 90, 80", x.mayLose(2, 1), 10);
        Check.same("as good as 80 of 90, 80", x.mayLose(2, 2), 20);
        Check.same("both may be better", x.mayLose(2, 3), 100);
        Check.same("place 12", x.mayLose(2, 12), 100);
        x.withdraw(0);
        Check.same("withdrawn ones count", x.mayLose(2, 1), 10);
        Check.same("it has withdrawn", x.mayLose(0, 1), DogTrials.NONE);
        x.withdraw(2);
        Check.same("it has withdrawn without a run", x.mayLose(2, 12), DogTrials.NONE);
        Check.badIndex("mayLose(3, 1)", () -> x.mayLose(3, 1));
        Check.badIndex("mayLose(-1, 1)", () -> x.mayLose(-1, 1));
        Check.badIndex("mayLose(3, 0)", () -> x.mayLose(3, 0));
        Check.badArgument("mayLose(0, 0)", () -> x.mayLose(0, 0));
        Check.badArgument("mayLose(0, 13)", () -> x.mayLose(0, 13));
        DogTrials y = Check.trial("T300d001d102");
        y.run(0, 5);
        Check.same("as good as 100", y.mayLose(1, 1), 0);
    }

    private static void promise23OfAnewRuns() {
        DogTrials x = Check.trial("T300d001d102d203");
        x.run(Check.points(10, 0, 0, 0, 0, 0), 5);
        x.run(Check.points(5, 0, 0, 0, 0, 7), 5);
        x.interfere(1, 5);
        Check.same("95 - x against 90", x.mayLose(1, 1), 5);
        Check.same("the worth of the phase", x.mayLose(1, 2), 10);
        x.run(Check.points(4, 0, 0, 0, 0, 0), 5);
        Check.same("95 - x against 96", x.mayLose(1, 1), DogTrials.NONE);
        Check.same("95 - x against 96, 90", x.mayLose(1, 2), 5);
        Check.same("95 - x against two", x.mayLose(1, 3), 10);
        x.interfere(2, 1);
        Check.same("a score that falls", x.mayLose(1, 1), 5);
        Check.same("phases 1 to 5", x.mayLose(2, 3), 80);
        Check.same("96 - x against 90", x.mayLose(2, 1), 6);
    }

    private static void promise24() {
        DogTrials x = Check.trial("T300d001d102d203d304");
        Check.same("all", x.contenders(), 4);
        x.run(Check.points(1, 0, 0, 0, 0, 0), 5);
        Check.same("still all", x.contenders(), 4);
        x.run(0, 5);
        Check.same("three", x.contenders(), 3);
        x.withdraw(2);
        Check.same("two", x.contenders(), 2);
        x.withdraw(1);
        Check.same("a withdrawn winner", x.contenders(), 2);
        x.interfere(0, 0);
        Check.same("one anew", x.contenders(), 3);
    }

    private static void nothingChanges() {
        DogTrials x = Check.trial("T300d001d102d203d304");
        x.run(Check.points(1, 0, 0, 0, 0, 0), 5);
        x.run(Check.points(1, 0, 0, 0, 0, 0), 5);
        x.interfere(1, 2);
        String before = Check.picture(x);
        for (int i = 0; i < 4; i++) {
            x.bestPlace(i);
            x.mayLose(i, 1);
        }
        x.contenders();
        x.whyNot();
        x.runsLeft(5);
        Check.samePicture("after forecasts", x, before);
    }
}

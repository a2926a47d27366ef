/** The edges of "The day", "Interference", "Actions and undo" and of promises 12 to 19, sentence by sentence. */
public final class ActionsEdgesTest {
    private static final int NONE = DogTrials.NONE;
    private static final long MOST_POINTS = 201020301010L;
    private static final int[] WORTH = {20, 10, 20, 30, 10, 10};

    public static void main(String[] args) {
        ownersAndDrawsAtTheirEdges();
        twelfthDogIsTheLastOne();
        drawsThatAreTaken();
        drawsThatAreFreeAgain();
        enteredDogIsNew();
        withdrawReturnsTheStateBefore();
        withdrawLeavesTheRest();
        pointsAtTheirEdges();
        digitsOfEachPhase();
        minutesAtTheirEdges();
        runUpToTheSunset();
        runOneMinuteBeyondTheSunset();
        tooDarkLeavesTheDogAsItIs();
        tooDarkToRunAnew();
        tooDarkReturnsNoneAlsoWithPoints();
        dayThatIsOver();
        runAnewNotesThePhasesFromItsPhaseOn();
        digitsThatDoNotMatter();
        runAnewDoesNotRunAnewAnyMore();
        interfereInEachPhase();
        interfereOnAnyDay();
        interfereAgain();
        sunsetsAtTheirEdges();
        nextDayAtAnyTime();
        nextDayLeavesTheRest();
        everyRankIsTaken();
        everyOtherRankIsRefused();
        placesThatChangeWithTheRank();
        drawsAtTheirEdges();
        ownDrawIsTakenAsAnother();
        anotherDrawChangesOrderAndStanding();
        fourteenStatesAreRemembered();
        fifteenthForgetsTheOldest();
        rememberingGoesRound();
        undoIsNoAction();
        actionsThatChangeNothingAreActions();
        saveAndQuestionsAreNoActions();
        undoKeepsTextAndSlots();
        the512thCall();
        Check.end();
    }

    /** "a dog has an owner from 0 to 5, a draw from 1 to 99". */
    private static void ownersAndDrawsAtTheirEdges() {
        int[] owners = {0, 5};
        int[] draws = {1, 99};
        for (int owner : owners) {
            for (int draw : draws) {
                DogTrials x = new DogTrials();
                Check.same("enter(" + owner + ", " + draw + ")", x.enter(owner, draw), 0);
                Check.same("owner", x.dog(0, 0), owner);
                Check.same("draw", x.dog(0, 1), draw);
            }
        }
        DogTrials x = new DogTrials();
        Check.badArgument("enter(-1, 1)", () -> x.enter(-1, 1));
        Check.badArgument("enter(6, 99)", () -> x.enter(6, 99));
        Check.badArgument("enter(0, 0)", () -> x.enter(0, 0));
        Check.badArgument("enter(5, 100)", () -> x.enter(5, 100));
        Check.same("none is entered", x.about(0), 0);
    }

    /** "There are at most 12 dogs": withdrawn ones count, and undo makes room. */
    private static void twelfthDogIsTheLastOne() {
        DogTrials x = new DogTrials();
        for (int i = 0; i < 12; i++) {
            Check.same("enter dog " + i, x.enter(0, 99 - i), i);
        }
        Check.badState("a 13th", () -> x.enter(0, 1));
        x.withdraw(0);
        Check.badState("a 13th after one has withdrawn", () -> x.enter(0, 1));
        x.undo();
        x.undo();
        Check.same("dogs after undo()", x.about(0), 11);
        Check.same("a 12th again", x.enter(5, 1), 11);
        Check.badState("a 13th again", () -> x.enter(0, 2));
        DogTrials y = Check.trial(Check.TWELVE);
        Check.badState("a 13th after load()", () -> y.enter(0, 99));
    }

    /** "no two dogs have the same, also withdrawn ones". */
    private static void drawsThatAreTaken() {
        DogTrials x = Check.trial("T300d001d199");
        Check.badState("the draw 1", () -> x.enter(5, 1));
        Check.badState("the draw 99", () -> x.enter(0, 99));
        x.run(0, 1);
        Check.badState("of one that has run", () -> x.enter(5, 1));
        x.withdraw(0);
        x.withdraw(1);
        Check.badState("of one that has withdrawn with a run", () -> x.enter(5, 1));
        Check.badState("of one that has withdrawn without", () -> x.enter(0, 99));
        Check.same("another one", x.enter(0, 98), 2);
    }

    private static void drawsThatAreFreeAgain() {
        DogTrials x = Check.trial("T300d001d199");
        x.setDraw(0, 2);
        Check.same("a draw that was given up", x.enter(3, 1), 2);
        x.undo();
        Check.same("a draw whose dog was taken back", x.enter(4, 1), 2);
        x.undo();
        x.undo();
        Check.badState("a draw that is taken again", () -> x.enter(3, 1));
    }

    /** An entered dog has not run, also if there was another one of its number. */
    private static void enteredDogIsNew() {
        DogTrials x = Check.trial("T300d001");
        x.enter(1, 2);
        x.run(0, 1);
        x.run(Check.points(1, 2, 3, 4, 5, 6), 1);
        x.interfere(1, 3);
        x.withdraw(1);
        for (int k = 0; k < 5; k++) {
            x.undo();
        }
        Check.same("enter() again", x.enter(2, 3), 1);
        int[] due = {2, 3, 0, 0, 0, 6, NONE, 1};
        for (int what = 0; what <= 7; what++) {
            Check.same("dog(1, " + what + ")", x.dog(1, what), due[what]);
        }
        Check.same("the first run of it", x.run(0, 1) + x.run(Check.points(0, 1, 0, 0, 0, 0), 1), 199);
    }

    /** "Returns the state that it had". */
    private static void withdrawReturnsTheStateBefore() {
        DogTrials x = Check.trial(Check.TWELVE);
        x.run(0, 1);
        x.run(0, 1);
        x.interfere(0, 5);
        Check.same("withdraw(0)", x.withdraw(0), 2);
        Check.same("withdraw(1)", x.withdraw(1), 1);
        for (int i = 2; i < 12; i++) {
            Check.same("withdraw(" + i + ")", x.withdraw(i), 0);
        }
        for (int i = 0; i < 12; i++) {
            int dog = i;
            Check.badState("withdraw(" + i + ") again", () -> x.withdraw(dog));
        }
        Check.badIndex("withdraw(12)", () -> x.withdraw(12));
        Check.badIndex("withdraw(-1)", () -> x.withdraw(-1));
    }

    private static void withdrawLeavesTheRest() {
        DogTrials x = Check.trial("T300d001d102d203");
        x.run(Check.points(1, 2, 3, 4, 5, 6), 7);
        x.interfere(0, 4);
        x.withdraw(0);
        int[] about = {3, 2, 1, 1, 0, 7, 300, 0, 1, 0, 1, 0, 1, 2, 3, 4, 5};
        for (int what = 0; what <= 16; what++) {
            Check.same("about(" + what + ")", x.about(what), about[what]);
        }
        int[] dog = {0, 1, 3, 1, 70, 4, 1, NONE};
        for (int what = 0; what <= 7; what++) {
            Check.same("dog(0, " + what + ")", x.dog(0, what), dog[what]);
        }
    }

    /** "if points is negative or greater than 999999999999": the least and the greatest points of any run. */
    private static void pointsAtTheirEdges() {
        Check.same("no points", Check.trial("T300d001").run(0, 1), 100);
        Check.same("one point", Check.trial("T300d001").run(1, 1), 99);
        Check.same("the most points", Check.trial("T300d001").run(MOST_POINTS, 1), 0);
        DogTrials x = Check.trial("T300d001");
        long[] bad = {-1, MOST_POINTS + 1, MOST_POINTS + 100, 999999999999L, 1000000000000L, 1000000000001L,
            Long.MAX_VALUE, Long.MIN_VALUE, -MOST_POINTS};
        for (long points : bad) {
            Check.badArgument("run(" + points + ", 1)", () -> x.run(points, 1));
        }
        Check.same("none counted", x.about(8), 0);
    }

    /** "two digits for each phase, phase 0 first"; "tells more points for a phase than it is worth". */
    private static void digitsOfEachPhase() {
        long one = 10000000000L;
        for (int phase = 0; phase <= 5; phase++) {
            DogTrials x = Check.trial("T300d001");
            long tooMany = (WORTH[phase] + 1) * one;
            Check.badArgument("run(" + tooMany + ", 1)", () -> x.run(tooMany, 1));
            long ninetyNine = 99 * one;
            Check.badArgument("run(" + ninetyNine + ", 1)", () -> x.run(ninetyNine, 1));
            Check.same("its worth in phase " + phase, x.run(WORTH[phase] * one, 1), 100 - WORTH[phase]);
            Check.same("lost(0, " + phase + ")", x.lost(0, phase), WORTH[phase]);
            one /= 100;
        }
    }

    /** "A run of the first dog of the order takes from 1 to 30 minutes". */
    private static void minutesAtTheirEdges() {
        DogTrials x = Check.trial("T300d001d102");
        int[] bad = {0, -1, 31, 32, Integer.MAX_VALUE, Integer.MIN_VALUE};
        for (int minutes : bad) {
            Check.badArgument("run(0, " + minutes + ")", () -> x.run(0, minutes));
        }
        x.run(0, 1);
        Check.same("after 1 minute", x.about(5), 1);
        x.run(0, 30);
        Check.same("after 30 more", x.about(5), 31);
    }

    /** "If the minute plus these is at most the sunset, the run counts". */
    private static void runUpToTheSunset() {
        DogTrials x = Check.trial("T060d001d102d203");
        x.run(0, 30);
        Check.same("just up to the sunset", x.run(Check.points(1, 0, 0, 0, 0, 0), 30), 99);
        Check.same("the minute", x.about(5), 60);
        Check.same("runs that count", x.about(8), 2);
        Check.same("too dark", x.about(9), 0);
        Check.same("state", x.dog(1, 2), 1);
        DogTrials y = Check.trial("T061d001d102d203");
        y.run(0, 30);
        y.run(0, 30);
        Check.same("the last minute of a day", y.run(0, 1), 100);
        Check.same("the minute then", y.about(5), 61);
    }

    /** "Otherwise it is too dark: the minute becomes the sunset, and the run does not count". */
    private static void runOneMinuteBeyondTheSunset() {
        DogTrials x = Check.trial("T060d001d102d203");
        x.run(0, 30);
        x.run(0, 1);
        Check.same("one minute beyond", x.run(0, 30), NONE);
        Check.same("the minute", x.about(5), 60);
        Check.same("runs that count", x.about(8), 2);
        Check.same("too dark", x.about(9), 1);
        DogTrials y = Check.trial("T061d001d102d203");
        y.run(0, 30);
        y.run(0, 30);
        Check.same("two minutes, if one is left", y.run(0, 2), NONE);
        Check.same("the minute then", y.about(5), 61);
        DogTrials z = Check.trial("T089d001d102d203");
        z.run(0, 30);
        z.run(0, 30);
        Check.same("30 minutes, if 29 are left", z.run(0, 30), NONE);
        z.undo();
        Check.same("29 minutes, if 29 are left", z.run(0, 29), 100);
    }

    /** "the dog has the state and the run that it had, but it is the one that ran last". */
    private static void tooDarkLeavesTheDogAsItIs() {
        DogTrials x = Check.trial("T060d001d102d203");
        x.run(0, 30);
        x.run(0, 29);
        Check.same("too dark", x.run(Check.points(1, 2, 3, 4, 5, 6), 2), NONE);
        int[] due = {2, 3, 0, 0, 0, 6, NONE, 0};
        for (int what = 0; what <= 7; what++) {
            Check.same("dog(2, " + what + ")", x.dog(2, what), due[what]);
        }
        Check.same("lost(2, 0)", x.lost(2, 0), NONE);
        Check.same("it ran last", x.about(7), 2);
        x.nextDay(60);
        Check.same("it is the first one of the next day", x.run(Check.points(1, 0, 0, 0, 0, 0), 30), 99);
    }

    private static void tooDarkToRunAnew() {
        DogTrials x = Check.trial("T060d001d102");
        x.run(Check.points(1, 2, 3, 4, 5, 6), 30);
        x.run(0, 29);
        x.interfere(0, 3);
        Check.same("too dark", x.run(Check.points(0, 0, 0, 7, 7, 7), 2), NONE);
        int[] lost = {1, 2, 3, 30, 10, 10};
        for (int phase = 0; phase <= 5; phase++) {
            Check.same("lost(0, " + phase + ")", x.lost(0, phase), lost[phase]);
        }
        int[] due = {0, 1, 2, 1, 44, 3, 2, 0};
        for (int what = 0; what <= 7; what++) {
            Check.same("dog(0, " + what + ")", x.dog(0, what), due[what]);
        }
        Check.same("it ran last", x.about(7), 0);
        x.nextDay(60);
        Check.same("it runs from the same phase on", x.run(0, 30), 94);
    }

    private static void tooDarkReturnsNoneAlsoWithPoints() {
        DogTrials x = Check.trial("T060d001d102d203");
        x.run(0, 30);
        x.run(0, 29);
        Check.same("too dark, no points", x.run(0, 30), NONE);
        x.undo();
        Check.same("too dark, the most points", x.run(MOST_POINTS, 30), NONE);
    }

    /** "A day whose minute is its sunset is over": by a run that counts, and by one that does not. */
    private static void dayThatIsOver() {
        DogTrials x = Check.trial("T060d001d102d203");
        x.run(0, 30);
        x.run(0, 29);
        Check.same("one minute is left", x.whyNot(), 0);
        Check.same("too dark", x.run(0, 2), NONE);
        Check.same("over by a run that does not count", x.whyNot(), 2);
        Check.badState("no run, not of 1 minute", () -> x.run(0, 1));
        x.undo();
        Check.same("up to the sunset", x.run(0, 1), 100);
        x.interfere(2, 0);
        Check.same("over by a run that counts", x.whyNot(), 2);
        Check.badState("no run anew", () -> x.run(0, 1));
        Check.same("it is told of runs that day", x.interfere(0, 0), 0);
        x.nextDay(60);
        Check.same("the next day", x.whyNot(), 0);
    }

    /** "those from its phase on; the others stay as they are". */
    private static void runAnewNotesThePhasesFromItsPhaseOn() {
        for (int from = 0; from <= 5; from++) {
            DogTrials x = Check.trial("T300d001");
            x.run(Check.points(1, 2, 3, 4, 5, 6), 1);
            x.interfere(0, from);
            int score = x.run(Check.points(9, 9, 9, 9, 9, 9), 1);
            int due = 100;
            for (int phase = 0; phase <= 5; phase++) {
                int lost = phase < from ? phase + 1 : 9;
                due -= lost;
                Check.same("from " + from + ", lost(0, " + phase + ")", x.lost(0, phase), lost);
            }
            Check.same("from " + from + ", score", score, due);
        }
    }

    /** "the digits of the phases that it does not run do not matter, but must be in their range, too". */
    private static void digitsThatDoNotMatter() {
        DogTrials x = Check.trial("T300d001");
        x.run(0, 1);
        x.interfere(0, 5);
        long one = 10000000000L;
        for (int phase = 0; phase <= 4; phase++) {
            long tooMany = (WORTH[phase] + 1) * one;
            Check.badArgument("one more in phase " + phase, () -> x.run(tooMany, 1));
            one /= 100;
        }
        Check.same("the most in the others", x.run(MOST_POINTS - 10, 1), 100);
        x.interfere(0, 5);
        Check.same("the most in all", x.run(MOST_POINTS, 1), 90);
        for (int phase = 0; phase <= 5; phase++) {
            Check.same("lost(0, " + phase + ")", x.lost(0, phase), phase == 5 ? 10 : 0);
        }
    }

    private static void runAnewDoesNotRunAnewAnyMore() {
        DogTrials x = Check.trial("T300d001");
        x.run(MOST_POINTS, 1);
        x.interfere(0, 1);
        Check.same("score", x.run(0, 1), 80);
        Check.same("state", x.dog(0, 2), 1);
        Check.same("phase", x.dog(0, 5), 6);
        Check.badState("no dog is to run", () -> x.run(0, 1));
    }

    /** "the phase from which on it is to run anew"; "Returns its score then". */
    private static void interfereInEachPhase() {
        int[] due = {0, 20, 30, 50, 80, 90};
        for (int phase = 0; phase <= 5; phase++) {
            DogTrials x = Check.trial("T300d001");
            x.run(0, 1);
            Check.same("interfere(0, " + phase + ")", x.interfere(0, phase), due[phase]);
            Check.same("interferences", x.about(10), 1);
        }
        DogTrials y = Check.trial("T300d001");
        y.run(MOST_POINTS, 1);
        Check.same("one that has lost all", y.interfere(0, 5), 0);
        DogTrials z = Check.trial(Check.TWELVE);
        for (int i = 0; i < 12; i++) {
            z.run(0, 1);
        }
        Check.same("the last dog", z.interfere(11, 5), 90);
        Check.badIndex("no such dog", () -> z.interfere(12, 5));
        Check.badIndex("no such phase", () -> z.interfere(0, 6));
        Check.badIndex("no phase -1", () -> z.interfere(0, -1));
    }

    /** "This can be told of any dog with the state 1, on any day". */
    private static void interfereOnAnyDay() {
        DogTrials x = Check.trial("T060d001d102");
        x.run(0, 30);
        x.run(0, 30);
        Check.same("on a day that is over", x.interfere(0, 5), 90);
        x.nextDay(60);
        x.nextDay(60);
        Check.same("two days later", x.interfere(1, 5), 90);
        x.run(0, 30);
        x.run(0, 30);
        Check.same("again", x.interfere(0, 4), 80);
        Check.same("interferences", x.about(10), 3);
    }

    /** A phase before or behind the one before can be told when it has run anew. */
    private static void interfereAgain() {
        DogTrials x = Check.trial("T300d001");
        x.run(Check.points(1, 1, 1, 1, 1, 1), 1);
        x.interfere(0, 3);
        Check.badState("it is to run anew already", () -> x.interfere(0, 2));
        x.run(Check.points(2, 2, 2, 2, 2, 2), 1);
        Check.same("a later phase", x.interfere(0, 5), 100 - 3 - 4 - 10);
        x.run(Check.points(3, 3, 3, 3, 3, 3), 1);
        Check.same("an earlier one", x.interfere(0, 1), 19);
        Check.same("run anew", x.run(Check.points(4, 4, 4, 4, 4, 4), 1), 79);
        Check.same("interferences", x.about(10), 3);
    }

    private static void sunsetsAtTheirEdges() {
        DogTrials x = new DogTrials();
        Check.same("nextDay(60)", x.nextDay(60), 1);
        Check.same("sunset 60", x.about(6), 60);
        Check.same("nextDay(600)", x.nextDay(600), 2);
        Check.same("sunset 600", x.about(6), 600);
        Check.badArgument("nextDay(59)", () -> x.nextDay(59));
        Check.badArgument("nextDay(601)", () -> x.nextDay(601));
        Check.badArgument("nextDay(0)", () -> x.nextDay(0));
        Check.same("the day stays", x.about(4), 2);
        Check.same("the sunset stays", x.about(6), 600);
    }

    /** "Begins the next day (at any time)". */
    private static void nextDayAtAnyTime() {
        for (Twins.Start start : Twins.ALL) {
            DogTrials x = start.make();
            int day = x.about(4);
            Check.same("nextDay(61)", x.nextDay(61), day + 1);
            Check.same("day", x.about(4), day + 1);
            Check.same("minute", x.about(5), 0);
            Check.same("sunset", x.about(6), 61);
            Check.same("nextDay(60) at once", x.nextDay(60), day + 2);
        }
    }

    private static void nextDayLeavesTheRest() {
        for (Twins.Start start : Twins.ALL) {
            DogTrials y = start.make();
            String day = " " + y.about(4) + " " + y.about(5) + " " + y.about(6) + " ";
            String before = Check.picture(y).replaceFirst(day, " ");
            DogTrials x = start.make();
            x.nextDay(60);
            Check.sameText("but for the day", Check.picture(x).replaceFirst(" \\d+ 0 60 ", " "), before);
        }
    }

    /** "each of the phases 0 to 5 once, the first one of the rank first": all 720 of them. */
    private static void everyRankIsTaken() {
        int taken = 0;
        for (int rank = 12345; rank <= 543210; rank++) {
            if (isRank(rank)) {
                DogTrials x = new DogTrials();
                Check.same("setRank(" + rank + ")", x.setRank(rank), 0);
                int got = 0;
                for (int k = 0; k <= 5; k++) {
                    got = 10 * got + x.about(11 + k);
                }
                Check.same("rank", got, rank);
                taken++;
            }
        }
        Check.same("ranks", taken, 720);
    }

    private static boolean isRank(int number) {
        int seen = 0;
        for (int k = 0, rest = number; k < 6; k++, rest /= 10) {
            seen |= 1 << rest % 10;
        }
        return seen == 63 && number < 1000000;
    }

    /** Each of the six digits of a rank is changed to each other digit, and a seventh one is put ahead. */
    private static void everyOtherRankIsRefused() {
        int[] ranks = {12345, 543210, 102345, 253041};
        for (int rank : ranks) {
            DogTrials x = new DogTrials();
            x.setRank(354021);
            for (int unit = 1; unit <= 100000; unit *= 10) {
                for (int digit = 0; digit <= 9; digit++) {
                    int other = rank + (digit - rank / unit % 10) * unit;
                    if (other != rank) {
                        Check.badArgument("setRank(" + other + ")", () -> x.setRank(other));
                    }
                }
            }
            for (int digit = 1; digit <= 9; digit++) {
                int longer = digit * 1000000 + rank;
                Check.badArgument("setRank(" + longer + ")", () -> x.setRank(longer));
            }
            Check.badArgument("setRank(-" + rank + ")", () -> x.setRank(-rank));
            Check.same("the rank stays", x.about(11) * 10 + x.about(16), 31);
            Check.same("one action", x.undo(), 0);
        }
    }

    /** "Returns the number of dogs whose place becomes another one": none, some, all twelve. */
    private static void placesThatChangeWithTheRank() {
        DogTrials x = Check.trial(Check.TWELVE);
        Check.same("without runs", x.setRank(543210), 0);
        for (int i = 0; i < 12; i++) {
            x.run(Check.points(i, 0, 11 - i, 0, 0, 0), 1);
        }
        Check.same("all stay", x.setRank(452310), 0);
        Check.same("all change", x.setRank(12345), 12);
        Check.same("all stay again", x.setRank(12345), 0);
        x.withdraw(0);
        x.withdraw(11);
        Check.same("also withdrawn ones", x.setRank(210345), 12);
        DogTrials y = Check.trial("T300d001d102d203");
        y.run(Check.points(5, 5, 5, 0, 0, 0), 1);
        y.run(Check.points(7, 1, 7, 0, 0, 0), 1);
        y.run(Check.points(6, 8, 1, 0, 0, 0), 1);
        Check.same("two of three", y.setRank(210345), 2);
        Check.same("place of dog 1", y.dog(1, 6), 3);
    }

    private static void drawsAtTheirEdges() {
        DogTrials x = Check.trial("T300d050d151");
        Check.same("setDraw(0, 1)", x.setDraw(0, 1), 50);
        Check.same("setDraw(0, 99)", x.setDraw(0, 99), 1);
        Check.badArgument("setDraw(0, 0)", () -> x.setDraw(0, 0));
        Check.badArgument("setDraw(0, 100)", () -> x.setDraw(0, 100));
        Check.badIndex("setDraw(2, 5)", () -> x.setDraw(2, 5));
        Check.badIndex("setDraw(-1, 5)", () -> x.setDraw(-1, 5));
        Check.badState("setDraw(0, 51)", () -> x.setDraw(0, 51));
        Check.same("the draw stays", x.dog(0, 1), 99);
    }

    /** "if another dog has it": the dog itself may. */
    private static void ownDrawIsTakenAsAnother() {
        DogTrials x = Check.trial("T300d001d199");
        Check.same("setDraw(0, 1)", x.setDraw(0, 1), 1);
        Check.same("setDraw(1, 99)", x.setDraw(1, 99), 99);
        x.withdraw(0);
        Check.same("of one that has withdrawn", x.setDraw(0, 1), 1);
        Check.badState("of another that has withdrawn", () -> x.setDraw(1, 1));
        Check.badState("of another", () -> x.setDraw(0, 99));
    }

    private static void anotherDrawChangesOrderAndStanding() {
        DogTrials x = Check.trial("T300d001d102d203d304");
        x.run(0, 1);
        x.run(0, 1);
        Check.standing("by draws", x, 0, 1);
        Check.order("by draws", x, 2, 3);
        x.setDraw(0, 98);
        x.setDraw(2, 99);
        Check.standing("by other draws", x, 1, 0);
        Check.order("by other draws", x, 3, 2);
    }

    /** "At most 14 states are remembered": 13 and 14. */
    private static void fourteenStatesAreRemembered() {
        for (int actions = 0; actions <= 14; actions++) {
            DogTrials x = Check.trial("T300");
            for (int k = 0; k < actions; k++) {
                x.nextDay(60 + k);
            }
            for (int left = actions - 1; left >= 0; left--) {
                Check.same("undo() of " + actions, x.undo(), left);
                Check.same("day", x.about(4), left);
                Check.same("sunset", x.about(6), left == 0 ? 300 : 59 + left);
            }
            Check.badState("no undo() after " + actions, x::undo);
        }
    }

    /** "when one more is remembered, the oldest one is forgotten". */
    private static void fifteenthForgetsTheOldest() {
        for (int actions = 15; actions <= 45; actions++) {
            DogTrials x = Check.trial("T300");
            for (int k = 0; k < actions; k++) {
                x.nextDay(60 + k);
            }
            for (int left = 13; left >= 0; left--) {
                Check.same("undo() of " + actions, x.undo(), left);
                Check.same("day", x.about(4), actions - 14 + left);
            }
            Check.badState("no undo() after " + actions, x::undo);
        }
    }

    /** States that were taken back make room for others, wherever the oldest one stands. */
    private static void rememberingGoesRound() {
        for (int before = 0; before <= 16; before++) {
            for (int back = 0; back <= Math.min(before, 14); back++) {
                DogTrials x = Check.trial("T300");
                int remembered = 0;
                for (int k = 0; k < before; k++) {
                    x.nextDay(60);
                    remembered = Math.min(14, remembered + 1);
                }
                for (int k = 0; k < back; k++) {
                    remembered--;
                    Check.same("undo()", x.undo(), remembered);
                }
                for (int k = 0; k < 12; k++) {
                    x.enter(k % 6, 1 + k);
                    remembered = Math.min(14, remembered + 1);
                }
                Check.same("day", x.about(4), before - back);
                for (int left = remembered - 1; left >= 0; left--) {
                    Check.same("undo() then", x.undo(), left);
                }
                Check.badState("none is left", x::undo);
                Check.same("day at last", x.about(4), before - back - Math.max(0, remembered - 12));
            }
        }
    }

    /** "undo is none": one undo does not take back another. */
    private static void undoIsNoAction() {
        DogTrials x = Check.trial("T300");
        x.nextDay(60);
        x.nextDay(61);
        x.nextDay(62);
        Check.same("undo()", x.undo(), 2);
        Check.same("undo() again", x.undo(), 1);
        Check.same("day", x.about(4), 1);
        x.nextDay(63);
        Check.same("undo() of a new one", x.undo(), 1);
        Check.same("undo() of the first one", x.undo(), 0);
        Check.same("sunset", x.about(6), 300);
    }

    /** "is an action, also if nothing becomes different". */
    private static void actionsThatChangeNothingAreActions() {
        DogTrials x = Check.trial("T300d001r543210");
        x.setRank(543210);
        x.setDraw(0, 1);
        x.setRank(543210);
        Check.same("undo() of the same rank", x.undo(), 2);
        Check.same("undo() of the same draw", x.undo(), 1);
        Check.same("undo() of the same rank at first", x.undo(), 0);
        for (int k = 0; k < 15; k++) {
            x.setDraw(0, 1);
        }
        Check.same("the 15th one forgets the oldest", x.undo(), 13);
    }

    private static void saveAndQuestionsAreNoActions() {
        DogTrials x = Twins.FULL.make();
        x.save(0);
        x.save(1);
        x.runScript(2, 40604060L);
        x.simulate(3, 99);
        x.errorPosition();
        x.clearText();
        x.append('T');
        x.setRank(12345);
        Check.same("undo()", x.undo(), 13);
        Check.samePicture("after undo()", x, Check.picture(Twins.FULL.make()));
    }

    /** "the state, which consists of everything but the text and the save slots". */
    private static void undoKeepsTextAndSlots() {
        DogTrials x = Check.trial("T300d001d102");
        x.run(0, 5);
        x.append('d');
        x.save(0);
        x.run(0, 5);
        x.save(1);
        Check.same("undo()", x.undo(), 1);
        Check.same("undo() again", x.undo(), 0);
        Check.same("errorPosition()", x.errorPosition(), 13);
        Check.same("restore(0)", x.restore(0), 1);
        Check.same("restore(1)", x.restore(1), 2);
        Check.same("clearText()", x.clearText(), 13);
    }

    /** "An object is used for at most 512 calls": the last one answers like the first one. */
    private static void the512thCall() {
        DogTrials x = new DogTrials();
        for (int day = 1; day <= 511; day++) {
            Check.same("nextDay(600)", x.nextDay(600), day);
        }
        Check.same("simulate(0, 99) as 512th call", x.simulate(0, 99), 511000);
        DogTrials y = new DogTrials();
        for (int k = 0; k < 499; k++) {
            y.nextDay(60);
        }
        for (int left = 13; left >= 1; left--) {
            // the last one is the 512th call
            Check.same("undo() to " + left, y.undo(), left);
        }
    }
}

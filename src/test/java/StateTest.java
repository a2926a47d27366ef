/** Promises 6 to 11: what there is. */
public final class StateTest {
    public static void main(String[] args) {
        promise6();
        promise7();
        promise8();
        promise9();
        promise9OfAnewRuns();
        promise9OfTheLastDog();
        promise10();
        promise10OfTies();
        promise11();
        twelveDogs();
        Check.end();
    }

    private static void promise6() {
        DogTrials x = Check.trial("T100d010d120d230d340r123450");
        x.run(0, 30);
        x.run(0, 30);
        x.run(0, 30);
        x.interfere(0, 3);
        x.interfere(1, 3);
        x.withdraw(2);
        x.run(0, 30);
        x.nextDay(200);
        x.run(0, 7);
        int[] due = {4, 2, 4, 1, 1, 7, 200, 3, 4, 1, 2, 1, 2, 3, 4, 5, 0};
        for (int what = 0; what < due.length; what++) {
            Check.same("about(" + what + ")", x.about(what), due[what]);
        }
        Check.badArgument("about(-1)", () -> x.about(-1));
        Check.badArgument("about(17)", () -> x.about(17));
        Check.badArgument("about(MAX)", () -> x.about(Integer.MAX_VALUE));
        Check.badArgument("about(MIN)", () -> x.about(Integer.MIN_VALUE));
        x.withdraw(3);
        Check.same("withdrawn dogs", x.about(3), 2);
        x.withdraw(0);
        Check.same("withdrawn dogs then", x.about(3), 3);
        Check.same("dogs with a run", x.about(2), 4);
        Check.same("the last one has withdrawn", x.about(7), 3);
    }

    private static void promise7() {
        DogTrials x = Check.trial("T300d510d120d033");
        x.run(Check.points(20, 10, 20, 30, 10, 10), 5);
        x.run(Check.points(1, 2, 3, 4, 5, 6), 5);
        x.interfere(1, 3);
        int[][] due = {
            {5, 10, 1, 1, 0, 6, 2, DogTrials.NONE},
            {1, 20, 2, 1, 44, 3, 1, 1},
            {0, 33, 0, 0, 0, 6, DogTrials.NONE, 0},
        };
        for (int i = 0; i < due.length; i++) {
            for (int what = 0; what < 8; what++) {
                Check.same("dog(" + i + ", " + what + ")", x.dog(i, what), due[i][what]);
            }
        }
        x.withdraw(1);
        int[] withdrawn = {1, 20, 3, 1, 44, 3, 1, DogTrials.NONE};
        for (int what = 0; what < 8; what++) {
            Check.same("withdrawn, dog(1, " + what + ")", x.dog(1, what), withdrawn[what]);
        }
        Check.badIndex("dog(-1, 0)", () -> x.dog(-1, 0));
        Check.badIndex("dog(3, 0)", () -> x.dog(3, 0));
        Check.badIndex("dog(12, 0)", () -> x.dog(12, 0));
        Check.badIndex("dog(3, 8)", () -> x.dog(3, 8));
        Check.badArgument("dog(0, -1)", () -> x.dog(0, -1));
        Check.badArgument("dog(0, 8)", () -> x.dog(0, 8));
    }

    private static void promise8() {
        DogTrials x = Check.trial("T300d510d120");
        x.run(Check.points(1, 2, 3, 4, 5, 6), 5);
        for (int phase = 0; phase < 6; phase++) {
            Check.same("lost(0, " + phase + ")", x.lost(0, phase), phase + 1);
            Check.same("lost(1, " + phase + ")", x.lost(1, phase), DogTrials.NONE);
        }
        x.interfere(0, 1);
        int[] due = {1, 10, 20, 30, 10, 10};
        for (int phase = 0; phase < 6; phase++) {
            Check.same("anew, lost(0, " + phase + ")", x.lost(0, phase), due[phase]);
        }
        x.withdraw(0);
        Check.same("withdrawn, lost(0, 0)", x.lost(0, 0), 1);
        Check.same("withdrawn, lost(0, 5)", x.lost(0, 5), 10);
        Check.badIndex("lost(2, 0)", () -> x.lost(2, 0));
        Check.badIndex("lost(-1, 0)", () -> x.lost(-1, 0));
        Check.badIndex("lost(0, 6)", () -> x.lost(0, 6));
        Check.badIndex("lost(0, -1)", () -> x.lost(0, -1));
        Check.badIndex("lost(1, 6)", () -> x.lost(1, 6));
    }

    private static void promise9() {
        DogTrials x = Check.trial("T300d030d010d020d150d140");
        Check.order("owners alternate", x, 1, 4, 2, 3, 0);
        Check.same("order(12)", x.order(12), DogTrials.NONE);
        Check.same("order(MAX)", x.order(Integer.MAX_VALUE), DogTrials.NONE);
        Check.badArgument("order(-1)", () -> x.order(-1));
        Check.badArgument("order(MIN)", () -> x.order(Integer.MIN_VALUE));
        x.withdraw(1);
        Check.order("without dog 1", x, 2, 4, 0, 3);
        x.run(0, 1);
        Check.order("after dog 2", x, 4, 0, 3);
        x.withdraw(4);
        Check.order("without dog 4", x, 3, 0);
        x.withdraw(3);
        Check.order("one owner alone", x, 0);
        x.run(0, 1);
        Check.order("none is left", x);
        Check.same("dog 0 is not in it", x.dog(0, 7), DogTrials.NONE);
        DogTrials y = Check.trial("T300d005d006d001");
        y.run(0, 1);
        Check.order("all of that owner", y, 0, 1);
        Check.order("one owner", Check.trial("T300d030d010d020"), 1, 2, 0);
        Check.order("another owner at the end", Check.trial("T300d001d002d003d599"), 0, 3, 1, 2);
    }

    private static void promise9OfAnewRuns() {
        DogTrials x = Check.trial("T300d010d020d030d140d150");
        Check.order("at first", x, 0, 3, 1, 4, 2);
        x.run(0, 1);
        x.run(0, 1);
        x.interfere(0, 2);
        x.interfere(3, 1);
        Check.order("two are to run anew", x, 1, 4, 2, 3, 0);
        x.withdraw(2);
        Check.order("the last one before counts", x, 1, 4, 0, 3);
        x.run(0, 1);
        x.run(0, 1);
        Check.order("the one that ran last counts", x, 0, 3);
        x.interfere(1, 0);
        x.interfere(4, 0);
        Check.order("four are to run anew", x, 0, 3, 1, 4);
        x.run(0, 1);
        Check.order("three are to run anew", x, 3, 1, 4);
        x.enter(1, 99);
        Check.order("a new one is ahead", x, 5, 1, 3, 4);
    }

    private static void promise9OfTheLastDog() {
        DogTrials x = Check.trial("T060d010d120d030");
        x.run(0, 1);
        x.withdraw(0);
        Check.order("the last one has withdrawn", x, 1, 2);
        x.nextDay(60);
        Check.order("the last one ran on another day", x, 1, 2);
        DogTrials y = Check.trial("T060d010d120d030d140");
        y.run(0, 30);
        y.run(0, 30);
        y.nextDay(60);
        y.run(0, 30);
        Check.order("dog 2 has run", y, 3);
        y.undo();
        y.setRank(12345);
        y.nextDay(60);
        Check.order("dog 1 ran last", y, 2, 3);
        DogTrials z = Check.trial("T070d010d015d120");
        z.run(0, 30);
        z.run(0, 30);
        Check.same("too dark", z.run(0, 30), DogTrials.NONE);
        Check.order("it did not count, but ran last", z, 1);
        z.nextDay(60);
        z.enter(1, 99);
        z.enter(0, 98);
        Check.order("other owners go first", z, 3, 1, 4);
    }

    private static DogTrials threeAlike() {
        DogTrials x = Check.trial("T300d030d120d210d305");
        x.run(Check.points(1, 0, 0, 0, 0, 0), 5);
        x.run(Check.points(0, 5, 0, 0, 0, 0), 5);
        x.run(Check.points(5, 0, 0, 0, 0, 0), 5);
        x.run(Check.points(0, 5, 0, 0, 0, 0), 5);
        return x;
    }

    private static void promise10() {
        DogTrials x = threeAlike();
        // the order was 3 (99), 2 (95), 1 (95), 0 (95); dogs 0 and 2 lost alike
        Check.standing("by places and draws", x, 3, 2, 0, 1);
        Check.same("standing(MAX)", x.standing(Integer.MAX_VALUE), DogTrials.NONE);
        Check.badArgument("standing(-1)", () -> x.standing(-1));
        Check.badArgument("standing(MIN)", () -> x.standing(Integer.MIN_VALUE));
        int[] places = {2, 4, 2, 1};
        for (int i = 0; i < 4; i++) {
            Check.same("place of dog " + i, x.dog(i, 6), places[i]);
        }
        x.setDraw(2, 31);
        Check.standing("another draw", x, 3, 0, 2, 1);
        x.withdraw(3);
        x.enter(5, 1);
        Check.standing("withdrawn ones count", x, 3, 0, 2, 1);
        x.interfere(0, 5);
        Check.standing("dog 0 is to run anew", x, 3, 2, 1, 0);
        DogTrials y = Check.trial("T300d030");
        y.withdraw(0);
        Check.standing("no run", y);
    }

    private static void promise10OfTies() {
        DogTrials x = Check.trial("T300d010d120d230");
        x.run(Check.points(10, 0, 0, 0, 0, 0), 5);
        x.run(Check.points(0, 0, 0, 0, 0, 3), 5);
        x.run(Check.points(0, 0, 0, 0, 10, 0), 5);
        x.interfere(1, 5);
        Check.same("score of dog 1", x.dog(1, 4), 90);
        Check.standing("the whole worth counts", x, 1, 2, 0);
        x.setRank(501234);
        Check.standing("phase 5 first", x, 2, 0, 1);
        x.setRank(450123);
        Check.standing("phase 4 first", x, 0, 1, 2);
        x.withdraw(1);
        Check.standing("withdrawn", x, 0, 1, 2);
        Check.same("place of dog 2", x.dog(2, 6), 3);
    }

    private static void promise11() {
        DogTrials x = Check.trial("T300d001d002d003d104d206");
        Check.same("owner(0) without a run", x.owner(0), 0);
        x.run(Check.points(10, 0, 0, 0, 0, 0), 5);
        x.run(Check.points(20, 0, 0, 0, 0, 0), 5);
        Check.same("owner(0) with one", x.owner(0), 90);
        Check.same("owner(1) with one", x.owner(1), 80);
        x.run(Check.points(5, 0, 0, 0, 0, 0), 5);
        Check.same("owner(0) with two", x.owner(0), 185);
        x.run(Check.points(1, 0, 0, 0, 0, 0), 5);
        x.run(Check.points(7, 0, 0, 0, 0, 0), 5);
        Check.same("owner(0) with three", x.owner(0), 188);
        x.withdraw(1);
        Check.same("owner(0) with a withdrawn one", x.owner(0), 188);
        Check.same("owner(2)", x.owner(2), 99);
        Check.same("owner(5)", x.owner(5), 0);
        x.interfere(2, 0);
        Check.same("owner(0) with one that runs anew", x.owner(0), 185);
        Check.badArgument("owner(-1)", () -> x.owner(-1));
        Check.badArgument("owner(6)", () -> x.owner(6));
    }

    private static void twelveDogs() {
        DogTrials x = Check.trial(Check.TWELVE);
        Check.order("twelve dogs", x, 0, 1, 2, 3, 4, 5, 6, 7, 8, 9, 10, 11);
        for (int i = 0; i < 12; i++) {
            Check.same("run of dog " + i, x.run(Check.points(11 - i, 0, 0, 0, 0, 0), 1), 89 + i);
        }
        Check.standing("twelve dogs", x, 11, 10, 9, 8, 7, 6, 5, 4, 3, 2, 1, 0);
        Check.order("twelve that have run", x);
        for (int owner = 0; owner < 6; owner++) {
            Check.same("owner(" + owner + ")", x.owner(owner), 184 + 2 * owner);
        }
        Check.same("place of dog 0", x.dog(0, 6), 12);
        Check.same("setRank(543210)", x.setRank(543210), 0);
        Check.same("contenders()", x.contenders(), 1);
        x.interfere(0, 0);
        Check.same("mayLose(0, 1)", x.mayLose(0, 1), 0);
        Check.same("mayLose(0, 11)", x.mayLose(0, 11), 10);
        Check.same("mayLose(0, 12)", x.mayLose(0, 12), 100);
        Check.same("bestPlace(0)", x.bestPlace(0), 1);
        x.save(0);
        Check.same("a draw that is free", x.setDraw(11, 13), 12);
        x.withdraw(11);
        Check.same("withdrawn", x.about(3), 1);
        Check.order("one is to run anew", x, 0);
        Check.same("restore(0)", x.restore(0), 12);
    }
}

/** Promises 12 to 19: actions and undo. */
public final class ActionsTest {
    public static void main(String[] args) {
        promise12();
        promise13();
        promise14();
        promise14OfTheLight();
        promise14OfAnewRuns();
        promise14Throws();
        promise15();
        promise16();
        promise17();
        promise17Throws();
        promise18();
        promise19();
        promise19OfFourteen();
        promise19OfEachAction();
        Check.end();
    }

    private static void promise12() {
        DogTrials x = new DogTrials();
        Check.same("enter(0, 1)", x.enter(0, 1), 0);
        Check.same("enter(5, 99)", x.enter(5, 99), 1);
        Check.badArgument("enter(-1, 5)", () -> x.enter(-1, 5));
        Check.badArgument("enter(6, 5)", () -> x.enter(6, 5));
        Check.badArgument("enter(0, 0)", () -> x.enter(0, 0));
        Check.badArgument("enter(0, 100)", () -> x.enter(0, 100));
        Check.badState("enter(3, 99)", () -> x.enter(3, 99));
        Check.badArgument("enter(6, 99)", () -> x.enter(6, 99));
        x.withdraw(1);
        Check.badState("the draw of a withdrawn dog", () -> x.enter(3, 99));
        Check.same("dogs", x.about(0), 2);
        Check.same("owner", x.dog(1, 0), 5);
        Check.same("draw", x.dog(1, 1), 99);
        for (int i = 2; i < 12; i++) {
            Check.same("enter " + i, x.enter(i % 6, 10 + i), i);
        }
        Check.badState("enter a 13th dog", () -> x.enter(0, 50));
        Check.badArgument("enter a 13th dog with the draw 0", () -> x.enter(0, 0));
        int[] due = {5, 21, 0, 0, 0, 6, DogTrials.NONE};
        for (int what = 0; what < due.length; what++) {
            Check.same("dog(11, " + what + ")", x.dog(11, what), due[what]);
        }
        DogTrials y = new DogTrials();
        y.enter(1, 1);
        y.run(Check.points(1, 1, 1, 1, 1, 1), 1);
        y.interfere(0, 2);
        y.undo();
        y.undo();
        y.undo();
        y.enter(2, 2);
        Check.same("no run of a former dog", y.dog(0, 3), 0);
        Check.same("no state of a former dog", y.dog(0, 2), 0);
        Check.same("no phase of a former dog", y.dog(0, 5), 6);
    }

    private static void promise13() {
        DogTrials x = Check.trial("T300d001d102d203");
        x.run(Check.points(1, 1, 1, 1, 1, 1), 5);
        x.run(Check.points(2, 1, 1, 1, 1, 1), 5);
        x.interfere(1, 2);
        Check.same("withdraw one that has run", x.withdraw(0), 1);
        Check.same("withdraw one that runs anew", x.withdraw(1), 2);
        Check.same("withdraw one that has not run", x.withdraw(2), 0);
        Check.same("state", x.dog(0, 2), 3);
        Check.same("score", x.dog(0, 4), 94);
        Check.same("score of one that was to run anew", x.dog(1, 4), 27);
        Check.same("phase of one that was to run anew", x.dog(1, 5), 2);
        Check.same("place of one that was to run anew", x.dog(1, 6), 2);
        Check.same("place of one without a run", x.dog(2, 6), DogTrials.NONE);
        Check.same("none is to run", x.about(1), 0);
        Check.same("interferences", x.about(10), 1);
        Check.badState("withdraw(0) again", () -> x.withdraw(0));
        Check.badState("withdraw(2) again", () -> x.withdraw(2));
        Check.badIndex("withdraw(3)", () -> x.withdraw(3));
        Check.badIndex("withdraw(-1)", () -> x.withdraw(-1));
    }

    private static void promise14() {
        DogTrials x = Check.trial("T300d001d102");
        Check.same("run", x.run(Check.points(20, 10, 20, 30, 10, 9), 30), 1);
        Check.same("minute", x.about(5), 30);
        Check.same("last", x.about(7), 0);
        Check.same("counted", x.about(8), 1);
        Check.same("state", x.dog(0, 2), 1);
        Check.same("run of dog 0", x.dog(0, 3), 1);
        Check.same("score", x.dog(0, 4), 1);
        Check.same("phase", x.dog(0, 5), 6);
        int[] due = {20, 10, 20, 30, 10, 9};
        for (int phase = 0; phase < 6; phase++) {
            Check.same("lost(0, " + phase + ")", x.lost(0, phase), due[phase]);
        }
        Check.same("run without a loss", x.run(0, 1), 100);
        Check.same("minute then", x.about(5), 31);
        Check.same("counted then", x.about(8), 2);
        Check.badState("no dog is to run", () -> x.run(0, 1));
    }

    private static void promise14OfTheLight() {
        DogTrials x = Check.trial("T060d001d102d203");
        Check.same("first", x.run(Check.points(1, 0, 0, 0, 0, 0), 29), 99);
        x.interfere(0, 4);
        Check.same("too dark", x.run(0, 30) + x.run(0, 2), 100 + DogTrials.NONE);
        Check.same("the minute is the sunset", x.about(5), 60);
        Check.same("last", x.about(7), 2);
        Check.same("counted", x.about(8), 2);
        Check.same("too dark so far", x.about(9), 1);
        Check.same("state", x.dog(2, 2), 0);
        Check.same("no run", x.dog(2, 3), 0);
        Check.badState("the day is over", () -> x.run(0, 1));
        Check.badArgument("the day is over, but 31", () -> x.run(0, 31));
        x.nextDay(60);
        Check.same("first of the next day", x.run(0, 30), 100);
        Check.same("up to the sunset", x.run(Check.points(9, 9, 9, 9, 9, 10), 30), 80);
        Check.same("what it lost before", x.lost(0, 0), 1);
        x.interfere(0, 1);
        x.nextDay(60);
        x.enter(0, 99);
        x.run(0, 30);
        x.enter(1, 98);
        x.run(0, 29);
        Check.same("one minute is left", x.about(5), 59);
        Check.same("too dark to run anew", x.run(0, 2), DogTrials.NONE);
        Check.same("last to run anew", x.about(7), 0);
        Check.same("state of it", x.dog(0, 2), 2);
        Check.same("phase of it", x.dog(0, 5), 1);
        Check.same("score of it", x.dog(0, 4), 19);
        Check.same("minute then", x.about(5), 60);
        Check.same("too dark twice", x.about(9), 2);
    }

    private static void promise14OfAnewRuns() {
        DogTrials x = Check.trial("T300d001");
        x.run(Check.points(1, 2, 3, 4, 5, 6), 5);
        x.interfere(0, 3);
        Check.same("score anew", x.run(Check.points(20, 10, 20, 7, 8, 9), 5), 70);
        int[] due = {1, 2, 3, 7, 8, 9};
        for (int phase = 0; phase < 6; phase++) {
            Check.same("anew, lost(0, " + phase + ")", x.lost(0, phase), due[phase]);
        }
        Check.same("anew, state", x.dog(0, 2), 1);
        Check.same("anew, phase", x.dog(0, 5), 6);
        Check.same("anew, counted", x.about(8), 2);
        Check.same("anew, minute", x.about(5), 10);
        x.interfere(0, 0);
        Check.badArgument("21 in a phase", () -> x.run(Check.points(21, 0, 0, 0, 0, 0), 5));
        x.run(0, 5);
        x.interfere(0, 5);
        Check.badArgument("21 in a phase that does not matter", () -> x.run(Check.points(21, 0, 0, 0, 0, 0), 5));
        Check.same("phase 5 alone", x.run(Check.points(20, 10, 20, 30, 10, 1), 5), 99);
        x.interfere(0, 0);
        Check.same("all phases", x.run(Check.points(2, 2, 2, 2, 2, 2), 5), 88);
    }

    private static void promise14Throws() {
        DogTrials x = Check.trial("T300d001");
        String before = Check.picture(x);
        Check.badArgument("points -1", () -> x.run(-1, 5));
        Check.badArgument("points MIN", () -> x.run(Long.MIN_VALUE, 5));
        Check.badArgument("points 1000000000000", () -> x.run(1000000000000L, 5));
        Check.badArgument("points 999999999999", () -> x.run(999999999999L, 5));
        Check.badArgument("points MAX", () -> x.run(Long.MAX_VALUE, 5));
        Check.badArgument("21 in phase 0", () -> x.run(Check.points(21, 0, 0, 0, 0, 0), 5));
        Check.badArgument("11 in phase 1", () -> x.run(Check.points(0, 11, 0, 0, 0, 0), 5));
        Check.badArgument("21 in phase 2", () -> x.run(Check.points(0, 0, 21, 0, 0, 0), 5));
        Check.badArgument("31 in phase 3", () -> x.run(Check.points(0, 0, 0, 31, 0, 0), 5));
        Check.badArgument("11 in phase 4", () -> x.run(Check.points(0, 0, 0, 0, 11, 0), 5));
        Check.badArgument("11 in phase 5", () -> x.run(Check.points(0, 0, 0, 0, 0, 11), 5));
        Check.badArgument("0 minutes", () -> x.run(0, 0));
        Check.badArgument("31 minutes", () -> x.run(0, 31));
        Check.badArgument("-5 minutes", () -> x.run(0, -5));
        Check.samePicture("after bad runs", x, before);
        Check.badState("no action was one", x::undo);
        Check.same("all is lost", x.run(Check.points(20, 10, 20, 30, 10, 10), 5), 0);
        DogTrials y = new DogTrials();
        Check.badArgument("no dog, bad points", () -> y.run(-1, 5));
        Check.badArgument("no dog, bad minutes", () -> y.run(0, 0));
        Check.badState("no dog", () -> y.run(0, 5));
    }

    private static void promise15() {
        DogTrials x = Check.trial("T300d001d102d203");
        x.run(Check.points(1, 1, 1, 1, 1, 1), 5);
        x.run(Check.points(1, 1, 1, 1, 1, 1), 5);
        x.nextDay(60);
        int[] due = {0, 19, 28, 47, 76, 85};
        for (int phase = 0; phase < 6; phase++) {
            Check.same("interfere(0, " + phase + ")", x.interfere(0, phase), due[phase]);
            Check.same("score", x.dog(0, 4), due[phase]);
            Check.same("state", x.dog(0, 2), 2);
            Check.same("phase", x.dog(0, 5), phase);
            x.undo();
        }
        x.interfere(1, 2);
        Check.same("interferences", x.about(10), 1);
        Check.same("runs that count", x.about(8), 2);
        Check.badState("interfere with one that runs anew", () -> x.interfere(1, 1));
        Check.badState("interfere with one that has not run", () -> x.interfere(2, 1));
        x.withdraw(0);
        Check.badState("interfere with one that has withdrawn", () -> x.interfere(0, 1));
        Check.badIndex("interfere(3, 0)", () -> x.interfere(3, 0));
        Check.badIndex("interfere(-1, 0)", () -> x.interfere(-1, 0));
        Check.badIndex("interfere(0, 6)", () -> x.interfere(0, 6));
        Check.badIndex("interfere(2, -1)", () -> x.interfere(2, -1));
    }

    private static void promise16() {
        DogTrials x = Check.trial("T100d001d102");
        x.run(0, 20);
        Check.same("nextDay(60)", x.nextDay(60), 1);
        Check.same("day", x.about(4), 1);
        Check.same("minute", x.about(5), 0);
        Check.same("sunset", x.about(6), 60);
        Check.same("last", x.about(7), 0);
        Check.same("nextDay(600)", x.nextDay(600), 2);
        Check.same("sunset then", x.about(6), 600);
        Check.badArgument("nextDay(59)", () -> x.nextDay(59));
        Check.badArgument("nextDay(601)", () -> x.nextDay(601));
        Check.badArgument("nextDay(-60)", () -> x.nextDay(-60));
        Check.same("day then", x.about(4), 2);
    }

    private static void promise17() {
        DogTrials x = Check.trial("T300d001d102d203d304");
        x.run(Check.points(5, 0, 0, 0, 0, 0), 5);
        x.run(Check.points(0, 5, 0, 0, 0, 0), 5);
        x.run(Check.points(5, 0, 0, 0, 0, 0), 5);
        Check.same("place of dog 0", x.dog(0, 6), 2);
        Check.same("the same rank", x.setRank(12345), 0);
        Check.same("phase 1 first", x.setRank(102345), 3);
        Check.same("place of dog 0 then", x.dog(0, 6), 1);
        Check.same("place of dog 1 then", x.dog(1, 6), 3);
        Check.same("place of dog 2 then", x.dog(2, 6), 1);
        Check.same("phase 1 before phase 0", x.setRank(543210), 0);
        int[] due = {5, 4, 3, 2, 1, 0};
        for (int k = 0; k < 6; k++) {
            Check.same("rank " + k, x.about(11 + k), due[k]);
        }
        x.withdraw(1);
        Check.same("phase 0 first", x.setRank(12345), 3);
        x.undo();
        Check.same("rank 0 after undo", x.about(11), 5);
    }

    private static void promise17Throws() {
        DogTrials x = new DogTrials();
        int[] bad = {-1, 0, 1, 12344, 12346, 112345, 1012345, 1543210, 543211, 543219, 654321, 999999, 123456, 54321,
            -12345, Integer.MAX_VALUE, Integer.MIN_VALUE, 1234, 2345};
        x.setRank(543210);
        for (int rank : bad) {
            if (rank != 54321) {
                Check.badArgument("setRank(" + rank + ")", () -> x.setRank(rank));
            }
        }
        Check.same("the rank stays", x.about(11) * 10 + x.about(16), 50);
        Check.same("setRank(54321)", x.setRank(54321), 0);
        Check.same("rank 0", x.about(11), 0);
        Check.same("rank 1", x.about(12), 5);
        Check.same("two states are remembered", x.undo(), 1);
    }

    private static void promise18() {
        DogTrials x = Check.trial("T300d001d102d203");
        Check.same("setDraw(0, 99)", x.setDraw(0, 99), 1);
        Check.same("draw", x.dog(0, 1), 99);
        Check.order("another draw", x, 1, 2, 0);
        Check.same("setDraw(0, 99) again", x.setDraw(0, 99), 99);
        Check.same("setDraw(0, 1)", x.setDraw(0, 1), 99);
        Check.badState("setDraw(0, 2)", () -> x.setDraw(0, 2));
        x.withdraw(1);
        Check.badState("setDraw(0, 2), withdrawn", () -> x.setDraw(0, 2));
        Check.same("of a withdrawn one", x.setDraw(1, 50), 2);
        Check.same("setDraw(0, 2) then", x.setDraw(0, 2), 1);
        Check.badArgument("setDraw(0, 0)", () -> x.setDraw(0, 0));
        Check.badArgument("setDraw(0, 100)", () -> x.setDraw(0, 100));
        Check.badIndex("setDraw(3, 5)", () -> x.setDraw(3, 5));
        Check.badIndex("setDraw(3, 0)", () -> x.setDraw(3, 0));
        Check.badIndex("setDraw(-1, 3)", () -> x.setDraw(-1, 3));
        Check.same("draw then", x.dog(0, 1), 2);
    }

    private static void promise19() {
        DogTrials x = Check.trial("T300d001d102");
        Check.badState("undo() at first", x::undo);
        String first = Check.picture(x);
        x.run(Check.points(1, 2, 3, 4, 5, 6), 5);
        String second = Check.picture(x);
        x.interfere(0, 2);
        Check.same("undo() of interfere", x.undo(), 1);
        Check.samePicture("after undo() of interfere", x, second);
        Check.badState("a throwing call is no action", () -> x.interfere(1, 2));
        Check.same("undo() of run", x.undo(), 0);
        Check.samePicture("after undo() of run", x, first);
        Check.badState("undo() at last", x::undo);
        Check.samePicture("after a throwing undo()", x, first);
    }

    private static void promise19OfFourteen() {
        DogTrials x = Check.trial("T300");
        for (int day = 1; day <= 20; day++) {
            x.nextDay(100 + day);
        }
        for (int left = 13; left >= 0; left--) {
            Check.same("undo() of many", x.undo(), left);
            Check.same("day after undo()", x.about(4), 6 + left);
            Check.same("sunset after undo()", x.about(6), 106 + left);
        }
        Check.badState("undo() of the 15th", x::undo);
        Check.same("the day stays", x.about(4), 6);
        x.nextDay(300);
        Check.same("undo() after all", x.undo(), 0);
        DogTrials y = Check.trial("T300");
        for (int day = 1; day <= 14; day++) {
            y.nextDay(100 + day);
        }
        for (int left = 13; left >= 0; left--) {
            Check.same("undo() of 14", y.undo(), left);
        }
        Check.same("the first day", y.about(4), 0);
    }

    /** An object with the first so many of eight actions, one of each kind and a second run. */
    private static DogTrials acted(int actions) {
        DogTrials x = Check.trial("T060d001d102");
        for (int k = 0; k < actions; k++) {
            switch (k) {
                case 0: x.enter(2, 3); break;
                case 1: x.withdraw(2); break;
                case 2: x.run(0, 30); break;
                case 3: x.setDraw(0, 1); break;
                case 4: x.setRank(543210); break;
                case 5: x.nextDay(60); break;
                case 6: x.run(0, 30); break;
                default: x.interfere(1, 0);
            }
        }
        return x;
    }

    private static void promise19OfEachAction() {
        for (int kept = 0; kept < 8; kept++) {
            DogTrials x = acted(8);
            x.whyNot();
            x.runsLeft(3);
            x.bestPlace(0);
            x.mayLose(1, 2);
            x.contenders();
            x.runScript(1, 1001);
            x.simulate(5, 5);
            x.save(0);
            for (int left = 7; left >= kept; left--) {
                Check.same("undo() of each", x.undo(), left);
            }
            Check.samePicture("undo() to " + kept, x, Check.picture(acted(kept)));
        }
        DogTrials y = Check.trial("T060d001");
        y.run(0, 30);
        y.interfere(0, 0);
        y.run(0, 29);
        y.interfere(0, 3);
        String picture = Check.picture(y);
        Check.same("too dark is an action", y.run(0, 30), DogTrials.NONE);
        Check.same("undo() of too dark", y.undo(), 4);
        Check.samePicture("after undo() of too dark", y, picture);
    }
}

/** Each call that is refused: the exception that is due, the one named first if there are several, nothing changed. */
public final class RefusedTest {
    private static final long LONG_MIN = Long.MIN_VALUE;
    private static final long LONG_MAX = Long.MAX_VALUE;
    private static final long MOST_POINTS = 201020301010L;

    public static void main(String[] args) {
        for (Twins.Start start : Twins.ALL) {
            append(start);
            aboutAndDog(start);
            lost(start);
            orderStandingAndOwner(start);
            enter(start);
            withdraw(start);
            runWithBadPoints(start);
            runWithBadMinutes(start);
            interfere(start);
            nextDayAndSetRank(start);
            setDraw(start);
            forecasts(start);
            scripts(start);
            slots(start);
        }
        appendToAFullText();
        loadOfNoTrial();
        enterInto12Dogs();
        withdrawAgain();
        runThatCannotBegin();
        interfereInAnotherState();
        setDrawOfAnother();
        undoOfNothing();
        restoreOfNothing();
        Check.end();
    }

    private static int dogsOf(Twins.Start start) {
        return start.make().about(0);
    }

    private static void append(Twins.Start start) {
        for (int c : Twins.outside(0, 255)) {
            Twins.badArgument("append(" + c + ")", start, x -> x.append(c));
        }
        Twins.badArgument("append(256 + T)", start, x -> x.append(256 + 'T'));
    }

    private static void appendToAFullText() {
        Twins.badState("append(0) to 70", Twins.FULL, x -> x.append(0));
        Twins.badState("append(255) to 70", Twins.FULL, x -> x.append(255));
        Twins.badState("append('T') to 70", Twins.FULL, x -> x.append('T'));
    }

    private static void loadOfNoTrial() {
        Twins.badState("load() of no text", Twins.FRESH, DogTrials::load);
        Twins.badState("load() of 70 characters", Twins.FULL, DogTrials::load);
        Twins.badState("load() of half a dog", Twins.DARK, DogTrials::load);
        Twins.badState("load() of T059", Twins.IDLE, DogTrials::load);
    }

    private static void aboutAndDog(Twins.Start start) {
        for (int what : Twins.outside(0, 16)) {
            Twins.badArgument("about(" + what + ")", start, x -> x.about(what));
        }
        int dogs = dogsOf(start);
        for (int i : Twins.outside(0, dogs - 1)) {
            Twins.badIndex("dog(" + i + ", 0)", start, x -> x.dog(i, 0));
            Twins.badIndex("dog(" + i + ", -1)", start, x -> x.dog(i, -1));
            Twins.badIndex("dog(" + i + ", 8)", start, x -> x.dog(i, 8));
        }
        for (int what : Twins.outside(0, 7)) {
            for (int i = 0; i < dogs; i += Math.max(1, dogs - 1)) {
                int dog = i;
                Twins.badArgument("dog(" + dog + ", " + what + ")", start, x -> x.dog(dog, what));
            }
        }
    }

    private static void lost(Twins.Start start) {
        int dogs = dogsOf(start);
        for (int i : Twins.outside(0, dogs - 1)) {
            Twins.badIndex("lost(" + i + ", 0)", start, x -> x.lost(i, 0));
            Twins.badIndex("lost(" + i + ", 6)", start, x -> x.lost(i, 6));
        }
        for (int phase : Twins.outside(0, 5)) {
            for (int i = 0; i < dogs; i++) {
                int dog = i;
                Twins.badIndex("lost(" + dog + ", " + phase + ")", start, x -> x.lost(dog, phase));
            }
        }
    }

    private static void orderStandingAndOwner(Twins.Start start) {
        int[] negative = {-1, -2, -256, Integer.MIN_VALUE};
        for (int k : negative) {
            Twins.badArgument("order(" + k + ")", start, x -> x.order(k));
            Twins.badArgument("standing(" + k + ")", start, x -> x.standing(k));
        }
        for (int owner : Twins.outside(0, 5)) {
            Twins.badArgument("owner(" + owner + ")", start, x -> x.owner(owner));
        }
    }

    /** Owner and draw come before the 12 dogs and before the draw that another one has. */
    private static void enter(Twins.Start start) {
        for (int owner : Twins.outside(0, 5)) {
            Twins.badArgument("enter(" + owner + ", 1)", start, x -> x.enter(owner, 1));
            Twins.badArgument("enter(" + owner + ", 77)", start, x -> x.enter(owner, 77));
            Twins.badArgument("enter(" + owner + ", 0)", start, x -> x.enter(owner, 0));
        }
        for (int draw : Twins.outside(1, 99)) {
            Twins.badArgument("enter(0, " + draw + ")", start, x -> x.enter(0, draw));
            Twins.badArgument("enter(5, " + draw + ")", start, x -> x.enter(5, draw));
        }
        for (int i = 0; i < dogsOf(start); i++) {
            int draw = start.make().dog(i, 1);
            Twins.badState("enter(3, " + draw + "), which dog " + i + " has", start, x -> x.enter(3, draw));
        }
    }

    private static void enterInto12Dogs() {
        Twins.badState("enter(0, 50) as 13th", Twins.FULL, x -> x.enter(0, 50));
        Twins.badState("enter(5, 7) as 13th, a draw that was given up", Twins.FULL, x -> x.enter(5, 7));
        Twins.badState("enter(5, 99) as 13th, a draw that is taken", Twins.FULL, x -> x.enter(5, 99));
    }

    private static void withdraw(Twins.Start start) {
        for (int i : Twins.outside(0, dogsOf(start) - 1)) {
            Twins.badIndex("withdraw(" + i + ")", start, x -> x.withdraw(i));
        }
    }

    private static void withdrawAgain() {
        Twins.badState("withdraw(2), which has a run", Twins.BUSY, x -> x.withdraw(2));
        Twins.badState("withdraw(5) of twelve", Twins.FULL, x -> x.withdraw(5));
        Twins.Start anew = () -> {
            DogTrials x = Check.trial("T300d001");
            x.run(0, 1);
            x.interfere(0, 2);
            x.withdraw(0);
            return x;
        };
        Twins.badState("withdraw(0), which was to run anew", anew, x -> x.withdraw(0));
    }

    /** Points and minutes come before what whyNot() says. */
    private static void runWithBadPoints(Twins.Start start) {
        long[] bad = {-1, LONG_MIN, LONG_MAX, 1000000000000L, 999999999999L, 1L << 40, 10000000000000L + MOST_POINTS};
        for (long points : bad) {
            Twins.badArgument("run(" + points + ", 1)", start, x -> x.run(points, 1));
            Twins.badArgument("run(" + points + ", 31)", start, x -> x.run(points, 31));
        }
        long one = 1;
        for (int phase = 5; phase >= 0; phase--) {
            long points = MOST_POINTS + one;
            Twins.badArgument("run with one more in phase " + phase, start, x -> x.run(points, 30));
            long all = 99 * one;
            Twins.badArgument("run with 99 in phase " + phase, start, x -> x.run(all, 1));
            one *= 100;
        }
    }

    private static void runWithBadMinutes(Twins.Start start) {
        for (int minutes : Twins.outside(1, 30)) {
            Twins.badArgument("run(0, " + minutes + ")", start, x -> x.run(0, minutes));
            Twins.badArgument("run(most, " + minutes + ")", start, x -> x.run(MOST_POINTS, minutes));
        }
    }

    private static void runThatCannotBegin() {
        Twins.badState("run without dogs", Twins.FRESH, x -> x.run(0, 1));
        Twins.badState("run if all have run", Twins.IDLE, x -> x.run(MOST_POINTS, 30));
        Twins.badState("run if the day is over", Twins.DARK, x -> x.run(0, 1));
        Twins.badState("run if the day is over, 30 minutes", Twins.DARK, x -> x.run(MOST_POINTS, 30));
    }

    /** The dog and the phase come before the state of the dog. */
    private static void interfere(Twins.Start start) {
        int dogs = dogsOf(start);
        for (int i : Twins.outside(0, dogs - 1)) {
            Twins.badIndex("interfere(" + i + ", 0)", start, x -> x.interfere(i, 0));
            Twins.badIndex("interfere(" + i + ", 6)", start, x -> x.interfere(i, 6));
        }
        for (int phase : Twins.outside(0, 5)) {
            for (int i = 0; i < dogs; i++) {
                int dog = i;
                Twins.badIndex("interfere(" + dog + ", " + phase + ")", start, x -> x.interfere(dog, phase));
            }
        }
    }

    private static void interfereInAnotherState() {
        for (Twins.Start start : Twins.ALL) {
            DogTrials made = start.make();
            for (int i = 0; i < dogsOf(start); i++) {
                int dog = i;
                if (made.dog(dog, 2) != 1) {
                    Twins.badState("interfere(" + dog + ", 0)", start, x -> x.interfere(dog, 0));
                    Twins.badState("interfere(" + dog + ", 5)", start, x -> x.interfere(dog, 5));
                }
            }
        }
    }

    private static void nextDayAndSetRank(Twins.Start start) {
        for (int sunset : Twins.outside(60, 600)) {
            Twins.badArgument("nextDay(" + sunset + ")", start, x -> x.nextDay(sunset));
        }
        int[] bad = {-1, 0, 1234, 12344, 12346, 12335, 11345, 112345, 543211, 543200, 543220, 643210, 543216,
            1012345, 1543210, -12345, -543210, Integer.MIN_VALUE, Integer.MAX_VALUE, 999999, 555555, 111111};
        for (int rank : bad) {
            Twins.badArgument("setRank(" + rank + ")", start, x -> x.setRank(rank));
        }
    }

    /** The dog comes first, then the draw, then that another one has it. */
    private static void setDraw(Twins.Start start) {
        int dogs = dogsOf(start);
        for (int i : Twins.outside(0, dogs - 1)) {
            Twins.badIndex("setDraw(" + i + ", 77)", start, x -> x.setDraw(i, 77));
            Twins.badIndex("setDraw(" + i + ", 0)", start, x -> x.setDraw(i, 0));
            Twins.badIndex("setDraw(" + i + ", 100)", start, x -> x.setDraw(i, 100));
            for (int j = 0; j < dogs; j += Math.max(1, dogs - 1)) {
                int taken = start.make().dog(j, 1);
                Twins.badIndex("setDraw(" + i + ", " + taken + ")", start, x -> x.setDraw(i, taken));
            }
        }
        for (int draw : Twins.outside(1, 99)) {
            for (int i = 0; i < dogs; i += Math.max(1, dogs - 1)) {
                int dog = i;
                Twins.badArgument("setDraw(" + dog + ", " + draw + ")", start, x -> x.setDraw(dog, draw));
            }
        }
    }

    private static void setDrawOfAnother() {
        for (Twins.Start start : Twins.ALL) {
            int dogs = dogsOf(start);
            for (int i = 0; i < dogs; i++) {
                int dog = i;
                int taken = start.make().dog((i + 1) % dogs, 1);
                Twins.badState("setDraw(" + dog + ", " + taken + ")", start, x -> x.setDraw(dog, taken));
            }
        }
    }

    private static void undoOfNothing() {
        Twins.badState("undo() of a new one", Twins.FRESH, DogTrials::undo);
        Twins.badState("undo() after load()", () -> Check.trial("T300d001"), DogTrials::undo);
        Twins.Start restored = () -> {
            DogTrials x = Twins.BUSY.make();
            x.restore(0);
            return x;
        };
        Twins.badState("undo() after restore()", restored, DogTrials::undo);
        Twins.Start undone = () -> {
            DogTrials x = Twins.FULL.make();
            for (int k = 0; k < 14; k++) {
                x.undo();
            }
            return x;
        };
        Twins.badState("undo() of the 15th", undone, DogTrials::undo);
    }

    /** A dog comes before a place; a place is refused also if the dog is not to run. */
    private static void forecasts(Twins.Start start) {
        int dogs = dogsOf(start);
        for (int minutes : Twins.outside(1, 30)) {
            Twins.badArgument("runsLeft(" + minutes + ")", start, x -> x.runsLeft(minutes));
        }
        for (int i : Twins.outside(0, dogs - 1)) {
            Twins.badIndex("bestPlace(" + i + ")", start, x -> x.bestPlace(i));
            Twins.badIndex("mayLose(" + i + ", 1)", start, x -> x.mayLose(i, 1));
            Twins.badIndex("mayLose(" + i + ", 0)", start, x -> x.mayLose(i, 0));
            Twins.badIndex("mayLose(" + i + ", 13)", start, x -> x.mayLose(i, 13));
        }
        for (int place : Twins.outside(1, 12)) {
            for (int i = 0; i < dogs; i++) {
                int dog = i;
                Twins.badArgument("mayLose(" + dog + ", " + place + ")", start, x -> x.mayLose(dog, place));
            }
        }
    }

    private static void scripts(Twins.Start start) {
        for (int n : Twins.outside(1, 4)) {
            Twins.badArgument("runScript(" + n + ", 0)", start, x -> x.runScript(n, 0));
            Twins.badArgument("runScript(" + n + ", 7000)", start, x -> x.runScript(n, 7000));
            Twins.badArgument("runScript(" + n + ", -1)", start, x -> x.runScript(n, -1));
        }
        long most = 1;
        for (int n = 1; n <= 4; n++) {
            most *= 10000;
            int count = n;
            long[] bad = {-1, LONG_MIN, LONG_MAX, most, most + 7000, -7000, most * 10};
            for (long script : bad) {
                Twins.badArgument("runScript(" + n + ", " + script + ")", start, x -> x.runScript(count, script));
            }
        }
        for (int m : Twins.outside(1, 99)) {
            Twins.badArgument("simulate(1, " + m + ")", start, x -> x.simulate(1, m));
            Twins.badArgument("simulate(MIN, " + m + ")", start, x -> x.simulate(LONG_MIN, m));
        }
    }

    private static void slots(Twins.Start start) {
        for (int slot : Twins.outside(0, 1)) {
            Twins.badIndex("save(" + slot + ")", start, x -> x.save(slot));
            Twins.badIndex("restore(" + slot + ")", start, x -> x.restore(slot));
        }
    }

    private static void restoreOfNothing() {
        Twins.badState("restore(0) of a new one", Twins.FRESH, x -> x.restore(0));
        Twins.badState("restore(1) of a new one", Twins.FRESH, x -> x.restore(1));
        Twins.badState("restore(0), only 1 is saved", Twins.DARK, x -> x.restore(0));
        Twins.badState("restore(1), only 0 is saved", Twins.IDLE, x -> x.restore(1));
        Twins.Start loaded = () -> {
            DogTrials x = Twins.BUSY.make();
            x.load();
            x.nextDay(60);
            return x;
        };
        Twins.badState("restore(0), saved before load()", loaded, x -> x.restore(0));
        Twins.badState("restore(1), saved before load()", loaded, x -> x.restore(1));
    }
}

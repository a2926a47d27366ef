/** The edges of promises 27 and 28, each sentence in a method of its own. */
public final class SlotsEdgesTest {
    private static final int NONE = DogTrials.NONE;

    public static void main(String[] args) {
        slotsAre0And1();
        saveReturnsTheDogsWithARun();
        saveStoresThePresentState();
        saveReplacesWhatWasSaved();
        saveIsNoAction();
        slotsAreApart();
        restoreReturnsTheDogsWithARun();
        restoreForgetsAllRememberedStates();
        restoreIsNoAction();
        slotKeepsItsState();
        nothingHasBeenSaved();
        nothingSinceTheLastLoad();
        badSlotComesBeforeAnEmptyOne();
        restoreKeepsTheText();
        restoredDogsAndNewOnes();
        Check.end();
    }

    /** "slot: 0 or 1". */
    private static void slotsAre0And1() {
        DogTrials x = Check.trial(Check.TWELVE);
        Check.same("save(0)", x.save(0), 0);
        Check.same("save(1)", x.save(1), 0);
        int[] bad = {-1, 2, 3, Integer.MIN_VALUE, Integer.MAX_VALUE};
        for (int slot : bad) {
            Check.badIndex("save(" + slot + ")", () -> x.save(slot));
            Check.badIndex("restore(" + slot + ")", () -> x.restore(slot));
        }
        Check.same("restore(0)", x.restore(0), 0);
        Check.same("restore(1)", x.restore(1), 0);
    }

    /** "Returns the number of dogs with a run": also of those that run anew or have withdrawn. */
    private static void saveReturnsTheDogsWithARun() {
        DogTrials x = Check.trial(Check.TWELVE);
        for (int i = 0; i < 12; i++) {
            Check.same("save(" + i % 2 + ")", x.save(i % 2), i);
            x.run(0, 1);
        }
        Check.same("save(0) of all", x.save(0), 12);
        x.interfere(0, 0);
        x.withdraw(0);
        x.withdraw(1);
        Check.same("save(1) of all", x.save(1), 12);
        DogTrials y = Check.trial("T300d001");
        y.withdraw(0);
        Check.same("save(0) of one without a run", y.save(0), 0);
        Check.same("save(0) without dogs", new DogTrials().save(0), 0);
    }

    private static void saveStoresThePresentState() {
        for (Twins.Start start : Twins.ALL) {
            for (int slot = 0; slot <= 1; slot++) {
                DogTrials x = start.make();
                x.save(slot);
                x.nextDay(599);
                if (x.about(1) > 0) {
                    x.run(0, 30);
                    x.interfere(x.about(7), 1);
                }
                x.setRank(354021);
                Check.same("restore(" + slot + ")", x.restore(slot), start.make().about(2));
                Check.samePicture("after restore(" + slot + ")", x, Check.picture(start.make()));
            }
        }
    }

    private static void saveReplacesWhatWasSaved() {
        DogTrials x = new DogTrials();
        x.save(0);
        x.save(1);
        x.nextDay(60);
        x.save(0);
        x.nextDay(61);
        x.restore(0);
        Check.same("day of slot 0", x.about(4), 1);
        x.restore(1);
        Check.same("day of slot 1", x.about(4), 0);
    }

    private static void saveIsNoAction() {
        for (Twins.Start start : Twins.ALL) {
            DogTrials x = start.make();
            DogTrials y = start.make();
            x.save(0);
            x.save(1);
            x.nextDay(60);
            y.nextDay(60);
            Check.same("undo() after save()", x.undo(), y.undo());
            Check.samePicture("after undo()", x, Check.picture(y));
        }
        DogTrials z = new DogTrials();
        z.save(0);
        Check.badState("undo() of save()", z::undo);
    }

    private static void slotsAreApart() {
        DogTrials x = Check.trial("T300d001d102");
        x.save(1);
        Check.badState("restore(0), only 1 is saved", () -> x.restore(0));
        x.run(0, 7);
        x.save(0);
        x.run(0, 8);
        Check.same("restore(1)", x.restore(1), 0);
        Check.same("minute of slot 1", x.about(5), 0);
        Check.same("restore(0)", x.restore(0), 1);
        Check.same("minute of slot 0", x.about(5), 7);
    }

    /** "Returns the number of dogs with a run then". */
    private static void restoreReturnsTheDogsWithARun() {
        DogTrials x = Check.trial(Check.TWELVE);
        x.save(0);
        for (int i = 0; i < 12; i++) {
            x.run(0, 1);
        }
        x.withdraw(3);
        x.save(1);
        Check.same("restore(0)", x.restore(0), 0);
        Check.same("restore(1)", x.restore(1), 12);
        Check.same("dogs with a run", x.about(2), 12);
        Check.same("restore(0) again", x.restore(0), 0);
    }

    /** "forgets all remembered states": one, and fourteen. */
    private static void restoreForgetsAllRememberedStates() {
        for (int actions = 0; actions <= 15; actions++) {
            DogTrials x = new DogTrials();
            x.save(1);
            for (int k = 0; k < actions; k++) {
                x.nextDay(60);
            }
            x.restore(1);
            Check.badState("undo() after restore(1)", x::undo);
            for (int day = 1; day <= 15; day++) {
                Check.same("day", x.nextDay(60), day);
            }
            for (int left = 13; left >= 0; left--) {
                Check.same("undo() of 15", x.undo(), left);
            }
            Check.badState("undo() of the 15th", x::undo);
        }
    }

    /** "load and restore are not actions". */
    private static void restoreIsNoAction() {
        DogTrials x = new DogTrials();
        x.save(0);
        x.nextDay(60);
        x.restore(0);
        Check.badState("undo() of restore(0)", x::undo);
        x.nextDay(61);
        Check.same("undo() of the action after it", x.undo(), 0);
        Check.same("day", x.about(4), 0);
    }

    /** "The save slot keeps it", whatever is done with the state. */
    private static void slotKeepsItsState() {
        for (Twins.Start start : Twins.ALL) {
            DogTrials x = start.make();
            x.save(0);
            for (int k = 0; k < 2; k++) {
                x.restore(0);
                x.nextDay(600);
                if (x.about(1) > 0) {
                    x.run(Check.points(9, 9, 9, 9, 9, 9), 30);
                    x.withdraw(x.about(7));
                }
                x.undo();
            }
            x.restore(0);
            Check.samePicture("after restore(0)", x, Check.picture(start.make()));
        }
    }

    private static void nothingHasBeenSaved() {
        DogTrials x = new DogTrials();
        Check.badState("restore(0) of a new one", () -> x.restore(0));
        Check.badState("restore(1) of a new one", () -> x.restore(1));
        x.save(0);
        Check.badState("restore(1) then", () -> x.restore(1));
        Check.same("restore(0) then", x.restore(0), 0);
    }

    /** "if nothing has been saved in it since the last load". */
    private static void nothingSinceTheLastLoad() {
        DogTrials x = Check.trial("T300d001");
        x.run(0, 1);
        x.save(0);
        x.save(1);
        x.load();
        Check.badState("restore(0) after load()", () -> x.restore(0));
        Check.badState("restore(1) after load()", () -> x.restore(1));
        x.save(1);
        Check.badState("restore(0), only 1 is saved since", () -> x.restore(0));
        Check.same("restore(1), saved since", x.restore(1), 0);
        x.append('x');
        Check.badState("load() of no trial", x::load);
        Check.same("a load() that was refused keeps it", x.restore(1), 0);
    }

    private static void badSlotComesBeforeAnEmptyOne() {
        DogTrials x = new DogTrials();
        Check.badIndex("restore(2) of a new one", () -> x.restore(2));
        Check.badIndex("restore(-1) of a new one", () -> x.restore(-1));
    }

    private static void restoreKeepsTheText() {
        DogTrials x = new DogTrials();
        x.save(0);
        Check.type(x, "T300d0");
        x.restore(0);
        Check.same("errorPosition()", x.errorPosition(), 6);
        Check.same("clearText()", x.clearText(), 6);
    }

    /** A dog that is entered after restore() is a new one, also if a later state had one of its number. */
    private static void restoredDogsAndNewOnes() {
        DogTrials x = Check.trial("T300d001");
        x.save(0);
        x.enter(1, 2);
        x.run(0, 1);
        x.run(Check.points(1, 2, 3, 4, 5, 6), 1);
        x.interfere(1, 2);
        x.restore(0);
        Check.same("dogs", x.about(0), 1);
        Check.badIndex("dog(1, 0)", () -> x.dog(1, 0));
        Check.same("enter(5, 2)", x.enter(5, 2), 1);
        int[] due = {5, 2, 0, 0, 0, 6, NONE, 1};
        for (int what = 0; what <= 7; what++) {
            Check.same("dog(1, " + what + ")", x.dog(1, what), due[what]);
        }
        Check.same("lost(1, 5)", x.lost(1, 5), NONE);
    }
}

/** Promises 27 and 28: save slots. */
public final class SlotsTest {
    public static void main(String[] args) {
        promise27();
        promise28();
        promise28AfterLoad();
        promise28Throws();
        Check.end();
    }

    private static void promise27() {
        DogTrials x = Check.trial("T300d001d102d203");
        Check.same("save(0) without a run", x.save(0), 0);
        x.run(0, 5);
        x.run(0, 5);
        x.interfere(0, 1);
        x.withdraw(1);
        String before = Check.picture(x);
        Check.same("save(1)", x.save(1), 2);
        Check.samePicture("after save(1)", x, before);
        Check.same("save() is no action", x.undo(), 3);
        Check.badIndex("save(-1)", () -> x.save(-1));
        Check.badIndex("save(2)", () -> x.save(2));
        Check.badIndex("save(MAX)", () -> x.save(Integer.MAX_VALUE));
    }

    private static void promise28() {
        DogTrials x = Check.trial("T300d001d102d203");
        x.run(Check.points(1, 2, 3, 4, 5, 6), 5);
        x.save(0);
        String first = Check.picture(x);
        x.run(0, 5);
        x.interfere(0, 3);
        x.setRank(543210);
        x.nextDay(111);
        x.enter(4, 44);
        x.save(1);
        String second = Check.picture(x);
        Check.same("restore(0)", x.restore(0), 1);
        Check.samePicture("after restore(0)", x, first);
        Check.badState("undo() after restore(0)", x::undo);
        x.run(0, 5);
        x.withdraw(0);
        Check.same("restore(0) again", x.restore(0), 1);
        Check.samePicture("after restore(0) again", x, first);
        Check.same("restore(1)", x.restore(1), 2);
        Check.samePicture("after restore(1)", x, second);
        Check.badState("restore() is no action", x::undo);
        x.save(0);
        x.nextDay(222);
        Check.same("undo() after restore", x.undo(), 0);
        x.restore(0);
        Check.samePicture("a slot that was saved again", x, second);
    }

    private static void promise28AfterLoad() {
        DogTrials x = new DogTrials();
        x.save(0);
        x.save(1);
        Check.same("restore(0) before load", x.restore(0), 0);
        Check.type(x, "T300d001");
        x.load();
        Check.badState("restore(0) after load", () -> x.restore(0));
        Check.badState("restore(1) after load", () -> x.restore(1));
        x.save(1);
        Check.badState("restore(0) after save(1)", () -> x.restore(0));
        Check.same("restore(1) after save(1)", x.restore(1), 0);
        Check.same("dogs", x.about(0), 1);
        x.clearText();
        x.restore(1);
        Check.same("the text is no part of the state", x.clearText(), 0);
    }

    private static void promise28Throws() {
        DogTrials x = Check.trial("T300d001d102");
        x.nextDay(100);
        Check.badIndex("restore(-1)", () -> x.restore(-1));
        Check.badIndex("restore(2)", () -> x.restore(2));
        Check.badState("restore(0)", () -> x.restore(0));
        Check.badState("restore(1)", () -> x.restore(1));
        Check.same("the remembered state stays", x.undo(), 0);
    }
}

/** Promises 1 to 5: a new object, and the text. */
public final class TextTest {
    public static void main(String[] args) {
        promise1();
        promise2();
        promise3();
        promise4OfSigns();
        promise4OfSunsets();
        promise4OfDogs();
        promise4OfManyDogs();
        promise4OfRanks();
        promise5();
        promise5Throws();
        Check.end();
    }

    private static void promise1() {
        DogTrials x = new DogTrials();
        int[] due = {0, 0, 0, 0, 0, 0, 300, DogTrials.NONE, 0, 0, 0, 0, 1, 2, 3, 4, 5};
        for (int what = 0; what < due.length; what++) {
            Check.same("new, about(" + what + ")", x.about(what), due[what]);
        }
        Check.same("new, order(0)", x.order(0), DogTrials.NONE);
        Check.same("new, standing(0)", x.standing(0), DogTrials.NONE);
        Check.same("new, owner(0)", x.owner(0), 0);
        Check.same("new, whyNot()", x.whyNot(), 1);
        Check.same("new, contenders()", x.contenders(), 0);
        Check.same("new, runsLeft(1)", x.runsLeft(1), 0);
        Check.same("new, clearText()", x.clearText(), 0);
        Check.badIndex("new, dog(0, 0)", () -> x.dog(0, 0));
        Check.badState("new, undo()", x::undo);
        Check.badState("new, restore(0)", () -> x.restore(0));
        Check.badState("new, restore(1)", () -> x.restore(1));
        Check.badState("new, load()", x::load);
    }

    private static void promise2() {
        DogTrials x = new DogTrials();
        Check.badArgument("append(-1)", () -> x.append(-1));
        Check.badArgument("append(256)", () -> x.append(256));
        Check.badArgument("append(MIN)", () -> x.append(Integer.MIN_VALUE));
        Check.badArgument("append(MAX)", () -> x.append(Integer.MAX_VALUE));
        Check.same("append(0)", x.append(0), 1);
        Check.same("append(255)", x.append(255), 2);
        for (int length = 3; length <= 70; length++) {
            Check.same("append to " + length, x.append('T'), length);
        }
        Check.badState("append to 71", () -> x.append('T'));
        Check.badArgument("append(256) to 71", () -> x.append(256));
        Check.same("length after a full text", x.clearText(), 70);
        Check.same("append after clearText", x.append('T'), 1);
    }

    private static void promise3() {
        DogTrials x = Check.trial("T300d005");
        Check.same("clearText()", x.clearText(), 8);
        Check.same("clearText() again", x.clearText(), 0);
        Check.same("dogs after clearText", x.about(0), 1);
        Check.same("errorPosition() after clearText", x.errorPosition(), 0);
    }

    private static void error(String text, int due) {
        DogTrials x = new DogTrials();
        Check.type(x, text);
        Check.same("errorPosition() of " + text, x.errorPosition(), due);
        if (due == DogTrials.NONE) {
            Check.same("load() of " + text, x.load(), x.about(0));
        } else {
            Check.badState("load() of " + text, x::load);
        }
        Check.same("length after errorPosition() of " + text, x.clearText(), text.length());
    }

    private static void promise4OfSigns() {
        error("", 0);
        error("t300", 0);
        error(" T300", 0);
        error("T", 1);
        error("T 300", 1);
        error("T300 ", 4);
        error("T300x", 4);
        error("T300D", 4);
        error("T300T", 4);
        error("T300R", 4);
        error("300", 0);
        error("T/00", 1);
        error("T:00", 1);
        error("T30/", 3);
        error("T30:", 3);
        error("T3\u00ff0", 2);
    }

    private static void promise4OfSunsets() {
        error("T300", DogTrials.NONE);
        error("T060", DogTrials.NONE);
        error("T099", DogTrials.NONE);
        error("T100", DogTrials.NONE);
        error("T599", DogTrials.NONE);
        error("T600", DogTrials.NONE);
        error("T059", 2);
        error("T000", 2);
        error("T601", 3);
        error("T609", 3);
        error("T610", 2);
        error("T700", 1);
        error("T900", 1);
        error("T0", 2);
        error("T6", 2);
        error("T06", 3);
        error("T60", 3);
        error("T3000", 4);
        DogTrials x = Check.trial("T060");
        Check.same("sunset 060", x.about(6), 60);
        Check.same("sunset 587", Check.trial("T587").about(6), 587);
    }

    private static void promise4OfDogs() {
        error("T300d", 5);
        error("T300d5", 6);
        error("T300d50", 7);
        error("T300d501", DogTrials.NONE);
        error("T300d099", DogTrials.NONE);
        error("T300d601", 5);
        error("T300dd01", 5);
        error("T300d0r1", 6);
        error("T300d5 1", 6);
        error("T300d500", 7);
        error("T300d50/", 7);
        error("T300d50:", 7);
        error("T300d5012", 8);
        error("T300d501d", 9);
        error("T300d501d001", 11);
        error("T300d501d002", DogTrials.NONE);
        error("T300d501d501", 11);
        error("T300d010d001d010", 15);
        error("T300d501x", 8);
        error("T300d501 d502", 8);
        DogTrials x = Check.trial("T300d501r543210");
        x.clearText();
        Check.type(x, "T300d5");
        Check.same("what was typed before is gone", x.errorPosition(), 6);
        x.append('0');
        Check.same("also at the last digit", x.errorPosition(), 7);
    }

    private static String tens(int first, int last) {
        StringBuilder dogs = new StringBuilder();
        for (int draw = first; draw <= last; draw++) {
            dogs.append('d').append(draw % 6).append(draw / 10).append(draw % 10);
        }
        return dogs.toString();
    }

    private static void promise4OfManyDogs() {
        error("T300" + tens(10, 19) + "d01", 46);
        error("T300" + tens(10, 19) + "d020", DogTrials.NONE);
        error("T300" + tens(10, 18) + "d010", 43);
        error("T300" + tens(10, 18) + "d019", DogTrials.NONE);
        error("T300" + tens(11, 19) + "d010", DogTrials.NONE);
        error("T300" + tens(1, 9) + "d00", 42);
        error("T300" + tens(1, 8) + "d00", 39);
        error("T300" + tens(1, 8) + "d009", DogTrials.NONE);
        error("T300" + tens(90, 99) + "d59", 46);
        error("T300" + tens(31, 41), DogTrials.NONE);
        error("T300" + tens(31, 42), DogTrials.NONE);
        error("T300" + tens(31, 43), 52);
        error("T300" + tens(31, 42) + "d", 52);
        error("T300" + tens(31, 42) + "r", 53);
        error("T300" + tens(31, 42) + "r543210", DogTrials.NONE);
        error("T300" + tens(31, 42) + "r543210d", 59);
        error("T300" + tens(31, 42) + "r54321055555555555", 59);
    }

    private static void promise4OfRanks() {
        error("T300r", 5);
        error("T300r012345", DogTrials.NONE);
        error("T300r543210", DogTrials.NONE);
        error("T300d007r543210", DogTrials.NONE);
        error("T300r01234", 10);
        error("T300r0123455", 11);
        error("T300r012344", 10);
        error("T300r6", 5);
        error("T300r9", 5);
        error("T300r00", 6);
        error("T300r505", 7);
        error("T300r0a", 6);
        error("T300r012345d001", 11);
        error("T300r012345r012345", 11);
    }

    private static void promise5() {
        DogTrials x = new DogTrials();
        x.enter(4, 77);
        x.enter(5, 78);
        x.setRank(543210);
        x.run(0, 30);
        x.run(0, 30);
        x.interfere(0, 1);
        x.interfere(1, 2);
        x.nextDay(60);
        x.run(0, 30);
        x.run(0, 30);
        x.withdraw(1);
        x.save(0);
        x.save(1);
        x.setRank(453210);
        Check.same("dogs that can win before load", x.contenders(), 2);
        Check.type(x, "T456d312d104");
        Check.same("load()", x.load(), 2);
        Check.samePicture("after load", x, Check.picture(Check.trial("T456d312d104")));
        int[] due = {2, 2, 0, 0, 0, 0, 456, DogTrials.NONE, 0, 0, 0, 0, 1, 2, 3, 4, 5};
        for (int what = 0; what < due.length; what++) {
            Check.same("loaded, about(" + what + ")", x.about(what), due[what]);
        }
        Check.same("owner of dog 0", x.dog(0, 0), 3);
        Check.same("draw of dog 0", x.dog(0, 1), 12);
        Check.same("owner of dog 1", x.dog(1, 0), 1);
        Check.same("draw of dog 1", x.dog(1, 1), 4);
        Check.same("state of dog 0", x.dog(0, 2), 0);
        Check.same("run of dog 0", x.dog(0, 3), 0);
        Check.same("phase of dog 0", x.dog(0, 5), 6);
        Check.same("what dog 0 lost", x.lost(0, 0), DogTrials.NONE);
        Check.same("state of dog 1", x.dog(1, 2), 0);
        Check.same("run of dog 1", x.dog(1, 3), 0);
        Check.badState("undo() after load", x::undo);
        Check.badState("restore(0) after load", () -> x.restore(0));
        Check.badState("restore(1) after load", () -> x.restore(1));
        Check.same("load() again", x.load(), 2);
        Check.same("the text stays", x.clearText(), 12);
        Check.type(x, "T100r254310");
        Check.same("load() with a rank", x.load(), 0);
        int[] rank = {2, 5, 4, 3, 1, 0};
        for (int k = 0; k < 6; k++) {
            Check.same("rank " + k, x.about(11 + k), rank[k]);
        }
        x.enter(0, 1);
        Check.badState("load() is no action", () -> x.undo() + x.undo());
    }

    private static void promise5Throws() {
        DogTrials x = Check.trial("T300d312d104");
        x.run(0, 20);
        x.save(1);
        String before = Check.picture(x);
        x.append('d');
        Check.badState("load() of half a text", x::load);
        Check.samePicture("after half a text", x, before);
        Check.same("errorPosition() of half a text", x.errorPosition(), 13);
        Check.samePicture("after errorPosition()", x, before);
        Check.same("the slot stays", x.restore(1), 1);
        x.run(0, 20);
        Check.badState("load() of half a text again", x::load);
        Check.same("the remembered state stays", x.undo(), 0);
        Check.samePicture("after undo()", x, before);
    }
}

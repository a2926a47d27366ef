/** The edges of "Text" and of promises 1 to 5, each sentence of the document in a method of its own. */
public final class TextEdgesTest {
    private static final int NONE = DogTrials.NONE;
    private static final String DIGITS = "0123456789";
    private static final String LONGEST = "T600d001d102d203d304d405d506d007d108d209d310d411d599r543210";

    public static void main(String[] args) {
        newObjectIsAsATrialOfSunset300();
        everyCharacterCodeIsAppended();
        bufferHoldsAtMost70();
        clearTextReturnsThePreviousLength();
        whatWasTypedBeforeIsGone();
        clearTextChangesNothingElse();
        trialIsTheLetterT();
        sunsetsAre060To600();
        everySunset();
        dogsOrRankOrNothingFollow();
        ownersAre0To5();
        drawsAre01To99();
        everyDraw();
        noDrawTwiceAtItsSecondDigit();
        noDrawTwiceAtItsFirstDigit();
        thereAre0To12Dogs();
        rankHasEachPhaseOnce();
        everyRank();
        thereAreNoBlanks();
        textThatEndsTooSoon();
        textThatGoesOn();
        firstOfTwoErrorsIsTold();
        errorPositionChangesNothing();
        loadMakesEverythingAsNew();
        loadForgets14StatesAndBothSlots();
        loadIsNoAction();
        loadKeepsTheText();
        loadReturnsTheNumberOfDogs();
        Check.end();
    }

    private static DogTrials typed(String text) {
        DogTrials x = new DogTrials();
        Check.type(x, text);
        return x;
    }

    private static void error(String text, int due) {
        Check.same("errorPosition() of " + text, typed(text).errorPosition(), due);
    }

    /** Of all 256 characters, just the good ones are allowed behind the start. */
    private static void allowed(String start, String good) {
        for (int c = 0; c <= 255; c++) {
            DogTrials x = typed(start);
            x.append(c);
            int got = x.errorPosition();
            boolean goesOn = got == NONE || got == start.length() + 1;
            Check.same(start + " and then " + c, goesOn ? start.length() : got, start.length());
            Check.same(start + " and then " + c + " is allowed", goesOn ? 1 : 0, good.indexOf(c) >= 0 ? 1 : 0);
        }
    }

    /** Dogs of owner 0 with the draws from first to last. */
    private static String dogs(int first, int last) {
        StringBuilder dogs = new StringBuilder();
        for (int draw = first; draw <= last; draw++) {
            dogs.append("d0").append(draw / 10).append(draw % 10);
        }
        return dogs.toString();
    }

    /** "Creates a trial without dogs, as described above": minute 0, sunset 300, day 0, rank 0 to 5. */
    private static void newObjectIsAsATrialOfSunset300() {
        Check.samePicture("a new object", new DogTrials(), Check.picture(Check.trial("T300")));
        int[] due = {0, 0, 0, 0, 0, 0, 300, NONE, 0, 0, 0, 0, 1, 2, 3, 4, 5};
        for (int what = 0; what <= 16; what++) {
            Check.same("new, about(" + what + ")", new DogTrials().about(what), due[what]);
        }
        Check.same("new, the text is empty", new DogTrials().clearText(), 0);
        for (int k = 0; k <= 12; k++) {
            Check.same("new, order(" + k + ")", new DogTrials().order(k), NONE);
            Check.same("new, standing(" + k + ")", new DogTrials().standing(k), NONE);
        }
        for (int owner = 0; owner <= 5; owner++) {
            Check.same("new, owner(" + owner + ")", new DogTrials().owner(owner), 0);
        }
    }

    /** "c: character code, 0 to 255"; "Returns the new length of the text". */
    private static void everyCharacterCodeIsAppended() {
        for (int c = 0; c <= 255; c++) {
            DogTrials x = new DogTrials();
            Check.same("append(" + c + ")", x.append(c), 1);
            Check.same("append(" + c + ") again", x.append(c), 2);
            Check.same("length after append(" + c + ")", x.clearText(), 2);
        }
    }

    /** "a text buffer of at most 70 characters"; "if the text already has 70 characters". */
    private static void bufferHoldsAtMost70() {
        DogTrials x = typed(LONGEST);
        for (int length = LONGEST.length() + 1; length <= 70; length++) {
            Check.same("append to " + length, x.append(' '), length);
        }
        Check.badState("append to 71", () -> x.append(' '));
        Check.same("errorPosition() of a full text", x.errorPosition(), LONGEST.length());
        Check.same("a full text is emptied", x.clearText(), 70);
        for (int length = 1; length <= 70; length++) {
            Check.same("append again to " + length, x.append('d'), length);
        }
        Check.badState("append again to 71", () -> x.append('d'));
    }

    /** "Returns the previous length of the text": none, one, full. */
    private static void clearTextReturnsThePreviousLength() {
        Check.same("clearText() of none", new DogTrials().clearText(), 0);
        Check.same("clearText() of one", typed("x").clearText(), 1);
        Check.same("clearText() of 70", Twins.FULL.make().clearText(), 70);
        DogTrials x = typed("T300d001");
        x.clearText();
        Check.same("clearText() twice", x.clearText(), 0);
        Check.same("errorPosition() of an emptied text", x.errorPosition(), 0);
        Check.badState("load() of an emptied text", x::load);
    }

    /** "Empties the text buffer": what follows is read as if nothing had been typed before. */
    private static void whatWasTypedBeforeIsGone() {
        for (int length = 0; length <= LONGEST.length(); length++) {
            DogTrials x = typed(LONGEST);
            x.clearText();
            Check.type(x, LONGEST.substring(0, length));
            int due = typed(LONGEST.substring(0, length)).errorPosition();
            Check.same("errorPosition() of " + length + " typed again", x.errorPosition(), due);
        }
    }

    /** "the state, which consists of everything but the text and the save slots". */
    private static void clearTextChangesNothingElse() {
        DogTrials x = Twins.BUSY.make();
        x.clearText();
        Check.samePicture("after clearText()", x, Check.picture(Twins.BUSY.make()));
        Check.same("clearText() is no action", x.undo(), Twins.BUSY.make().undo());
        Check.same("clearText() keeps the slots", x.restore(0), Twins.BUSY.make().restore(0));
    }

    private static void trialIsTheLetterT() {
        allowed("", "T");
        allowed("T", "0123456");
    }

    /** "three digits for the sunset (060 to 600)": a digit with which no such number begins is not allowed. */
    private static void sunsetsAre060To600() {
        allowed("T0", "6789");
        allowed("T06", DIGITS);
        allowed("T09", DIGITS);
        allowed("T1", DIGITS);
        allowed("T10", DIGITS);
        allowed("T5", DIGITS);
        allowed("T59", DIGITS);
        allowed("T6", "0");
        allowed("T60", "0");
    }

    private static void everySunset() {
        for (int sunset = 0; sunset <= 999; sunset++) {
            String text = "T" + sunset / 100 + sunset / 10 % 10 + sunset % 10;
            int due = sunset < 60 ? 2 : sunset <= 600 ? NONE : sunset < 610 ? 3 : sunset < 700 ? 2 : 1;
            error(text, due);
            if (due == NONE) {
                Check.same("sunset of " + text, Check.trial(text).about(6), sunset);
            }
        }
    }

    private static void dogsOrRankOrNothingFollow() {
        error("T300", NONE);
        allowed("T300", "dr");
        allowed("T300d001", "dr");
        allowed("T300r012345", "");
        allowed("T300d001r012345", "");
    }

    private static void ownersAre0To5() {
        allowed("T300d", "012345");
        allowed("T300d001d", "012345");
        for (int owner = 0; owner <= 5; owner++) {
            Check.same("owner " + owner, Check.trial("T300d" + owner + "01").dog(0, 0), owner);
        }
    }

    private static void drawsAre01To99() {
        for (int tens = 0; tens <= 9; tens++) {
            allowed("T300d0" + tens, tens == 0 ? "123456789" : DIGITS);
        }
        allowed("T300d5", DIGITS);
    }

    private static void everyDraw() {
        error("T300d000", 7);
        for (int draw = 1; draw <= 99; draw++) {
            String text = "T300" + dogs(draw, draw);
            error(text, NONE);
            Check.same("draw of " + text, Check.trial(text).dog(0, 1), draw);
        }
    }

    /** "a draw that another dog of the text has at its second digit", whoever owns it. */
    private static void noDrawTwiceAtItsSecondDigit() {
        allowed("T300d001d10", "23456789");
        allowed("T300d009d00", "12345678");
        allowed("T300d099d09", "012345678");
        allowed("T300d010d111d21", "23456789");
        allowed("T300" + dogs(1, 8) + "d00", "9");
        allowed("T300" + dogs(2, 9) + "d00", "1");
        allowed("T300" + dogs(40, 48) + "d54", "9");
        allowed("T300" + dogs(41, 49) + "d54", "0");
        allowed("T300" + dogs(51, 61) + "d05", "0");
        error("T300d050d150", 11);
        error("T300d050d049d051d550", 19);
    }

    /** "or at its first one if all draws with this first digit are taken": nine of them with 0, ten with any other. */
    private static void noDrawTwiceAtItsFirstDigit() {
        allowed("T300" + dogs(1, 9) + "d0", "123456789");
        allowed("T300" + dogs(1, 8) + "d0", DIGITS);
        allowed("T300" + dogs(2, 9) + "d0", DIGITS);
        allowed("T300" + dogs(10, 19) + "d5", "023456789");
        allowed("T300" + dogs(10, 18) + "d5", DIGITS);
        allowed("T300" + dogs(11, 19) + "d5", DIGITS);
        allowed("T300" + dogs(90, 99) + "d5", "012345678");
        allowed("T300" + dogs(49, 59) + "d5", "012346789");
        allowed("T300" + dogs(1, 11) + "d0", "123456789");
    }

    /** "0 to 12 dogs": a thirteenth one is not allowed at its letter. */
    private static void thereAre0To12Dogs() {
        for (int dogs = 0; dogs <= 12; dogs++) {
            String text = "T300" + dogs(31, 30 + dogs);
            error(text, NONE);
            allowed(text, dogs < 12 ? "dr" : "r");
            Check.same("dogs of " + text, Check.trial(text).about(0), dogs);
        }
        error("T300" + dogs(31, 43), 52);
    }

    /** "the letter r and the six digits of the rank", "a row of all six phases". */
    private static void rankHasEachPhaseOnce() {
        allowed("T300r", "012345");
        allowed("T300r0", "12345");
        allowed("T300r5", "01234");
        allowed("T300r53", "0124");
        allowed("T300r0123", "45");
        allowed("T300r01234", "5");
        allowed("T300r54321", "0");
        allowed("T300" + dogs(31, 42) + "r", "012345");
        allowed("T300" + dogs(31, 42) + "r543210", "");
    }

    private static void everyRank() {
        int ranks = 0;
        for (int number = 0; number <= 555555; number++) {
            String digits = String.valueOf(1000000 + number).substring(1);
            if (digits.chars().distinct().count() == 6 && digits.chars().allMatch(c -> c <= '5')) {
                ranks++;
                DogTrials x = Check.trial("T300r" + digits);
                for (int k = 0; k < 6; k++) {
                    Check.same("rank " + digits + " at " + k, x.about(11 + k), digits.charAt(k) - '0');
                }
            }
        }
        Check.same("ranks", ranks, 720);
    }

    /** "There are no blanks": nowhere. */
    private static void thereAreNoBlanks() {
        for (int at = 0; at <= LONGEST.length(); at++) {
            error(LONGEST.substring(0, at) + " " + LONGEST.substring(at), at);
        }
    }

    /** "if the text ends too soon, it is the length of the text". */
    private static void textThatEndsTooSoon() {
        for (int length = 0; length <= LONGEST.length(); length++) {
            boolean trial = length == 59 || length >= 4 && length <= 52 && length % 4 == 0;
            error(LONGEST.substring(0, length), trial ? NONE : length);
        }
    }

    private static void textThatGoesOn() {
        error(LONGEST + "d", 59);
        error(LONGEST + "r", 59);
        error(LONGEST + "0", 59);
        error(LONGEST + "T", 59);
        error(LONGEST + "\u0000", 59);
    }

    /** "the index of the first character that these rules do not allow at its place". */
    private static void firstOfTwoErrorsIsTold() {
        error("T059d600", 2);
        error("T300d600r", 5);
        error("T300d001d001d000", 11);
        error("T300r0012345", 6);
        error("t059", 0);
        error("T601d", 3);
    }

    private static void errorPositionChangesNothing() {
        for (Twins.Start start : Twins.ALL) {
            Twins.keeps("errorPosition()", start, DogTrials::errorPosition);
        }
    }

    /** "Makes everything as in a new object, and then as the text tells", whatever there was. */
    private static void loadMakesEverythingAsNew() {
        String[] texts = {"T060", "T600r543210", "T456d577", "T300d010d120d230r102345", LONGEST};
        for (String text : texts) {
            for (Twins.Start start : Twins.ALL) {
                DogTrials x = start.make();
                x.setRank(354021);
                x.clearText();
                Check.type(x, text);
                x.load();
                Check.samePicture("after load() of " + text, x, Check.picture(Check.trial(text)));
            }
        }
        DogTrials x = Twins.BUSY.make();
        x.clearText();
        Check.type(x, "T300");
        x.load();
        x.enter(3, 30);
        int[] due = {3, 30, 0, 0, 0, 6, NONE, 0};
        for (int what = 0; what <= 7; what++) {
            Check.same("entered after load(), dog(0, " + what + ")", x.dog(0, what), due[what]);
        }
        Check.same("entered after load(), lost(0, 0)", x.lost(0, 0), NONE);
    }

    /** "Forgets all remembered states and empties both save slots". */
    private static void loadForgets14StatesAndBothSlots() {
        DogTrials x = Twins.FULL.make();
        x.clearText();
        Check.type(x, "T300");
        x.load();
        Check.badState("undo() after load()", x::undo);
        Check.badState("restore(0) after load()", () -> x.restore(0));
        Check.badState("restore(1) after load()", () -> x.restore(1));
        for (int day = 1; day <= 15; day++) {
            x.nextDay(60);
        }
        for (int left = 13; left >= 0; left--) {
            Check.same("undo() after load() and 15 actions", x.undo(), left);
        }
        Check.badState("undo() of the 15th after load()", x::undo);
        Check.same("day then", x.about(4), 1);
    }

    /** "load and restore are not actions". */
    private static void loadIsNoAction() {
        DogTrials x = Check.trial("T300");
        x.load();
        x.load();
        Check.badState("undo() of load()", x::undo);
        x.nextDay(60);
        Check.same("undo() of the one action", x.undo(), 0);
    }

    private static void loadKeepsTheText() {
        DogTrials x = typed(LONGEST);
        Check.same("load()", x.load(), 12);
        Check.same("errorPosition() after load()", x.errorPosition(), NONE);
        Check.same("load() again", x.load(), 12);
        Check.same("append after load()", x.append('x'), 60);
        Check.same("errorPosition() then", x.errorPosition(), 59);
        Check.same("length then", x.clearText(), 60);
    }

    private static void loadReturnsTheNumberOfDogs() {
        for (int dogs = 0; dogs <= 12; dogs++) {
            Check.same("load() of " + dogs, typed("T300" + dogs(88, 87 + dogs)).load(), dogs);
        }
    }
}

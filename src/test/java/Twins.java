import java.util.HashMap;
import java.util.Map;

/** Objects in states of all kinds, and calls on them that must leave everything as it is. */
final class Twins {
    /** Makes an object in some state, by the same calls each time. */
    interface Start {
        DogTrials make();
    }

    /** A call on an object. */
    interface Use {
        int on(DogTrials x);
    }

    static final Start FRESH = DogTrials::new;
    static final Start BUSY = Twins::busy;
    static final Start FULL = Twins::full;
    static final Start DARK = Twins::dark;
    static final Start IDLE = Twins::idle;
    static final Start[] ALL = {FRESH, BUSY, FULL, DARK, IDLE};

    private static final Map<Start, String> KNOWN = new HashMap<>();

    private Twins() {
    }

    /** Dogs of all states (the last but one has withdrawn with a run, the last one without), text and slots in use. */
    private static DogTrials busy() {
        DogTrials x = Check.trial("T100d010d120d230d340d055d205r123450");
        x.run(Check.points(1, 2, 3, 4, 5, 6), 10);
        x.save(1);
        x.run(Check.points(2, 2, 3, 4, 5, 5), 20);
        x.nextDay(200);
        x.run(Check.points(20, 10, 20, 30, 10, 10), 30);
        x.save(0);
        x.setRank(543210);
        x.interfere(5, 3);
        x.run(0, 1);
        x.withdraw(2);
        x.withdraw(x.order(0));
        return x;
    }

    /** Twelve dogs, a text of 70 characters, 14 remembered states and two slots in use. */
    private static DogTrials full() {
        DogTrials x = Check.trial(Check.TWELVE);
        for (int k = 0; k < 9; k++) {
            x.run(Check.points(k % 3, 0, 5, 0, k % 4, 10), 30);
        }
        x.save(0);
        x.interfere(3, 0);
        x.interfere(4, 5);
        x.withdraw(5);
        x.setDraw(6, 99);
        x.nextDay(60);
        x.run(0, 30);
        x.save(1);
        x.clearText();
        for (int k = 0; k < 70; k++) {
            x.append('T');
        }
        return x;
    }

    /** A day that is over, with dogs that are to run; half a text; slot 1 in use. */
    private static DogTrials dark() {
        DogTrials x = Check.trial("T060d001d102d203");
        x.run(Check.points(0, 0, 0, 7, 0, 0), 30);
        x.run(Check.points(0, 0, 7, 0, 0, 0), 29);
        x.interfere(0, 4);
        x.save(1);
        x.run(0, 2);
        Check.type(x, "d3");
        return x;
    }

    /** No dog is to run; a text that is no trial; slot 0 in use. */
    private static DogTrials idle() {
        DogTrials x = Check.trial("T300d199d001d150");
        x.save(0);
        x.run(0, 30);
        x.run(0, 30);
        x.withdraw(x.order(0));
        x.clearText();
        Check.type(x, "T059");
        return x;
    }

    static void badIndex(String what, Start start, Use call) {
        refused(what, start, call, "IndexOutOfBoundsException");
    }

    static void badArgument(String what, Start start, Use call) {
        refused(what, start, call, "IllegalArgumentException");
    }

    static void badState(String what, Start start, Use call) {
        refused(what, start, call, "IllegalStateException");
    }

    private static void refused(String what, Start start, Use call, String want) {
        DogTrials x = start.make();
        Check.sameText(what, answer(() -> call.on(x)), want);
        keeps(what, start, call);
    }

    /** After the call, an object answers as one on which it was not made. */
    static void keeps(String what, Start start, Use call) {
        String want = KNOWN.computeIfAbsent(start, s -> everything(s, x -> 0));
        Check.sameText("after " + what, everything(start, call), want);
    }

    private static String answer(Check.Call call) {
        try {
            return String.valueOf(call.make());
        } catch (RuntimeException e) {
            return e.getClass().getSimpleName();
        }
    }

    private static DogTrials made(Start start, Use call) {
        DogTrials x = start.make();
        answer(() -> call.on(x));
        return x;
    }

    /** All that can be asked of an object; each question has a new one, so that none has more than 512 calls. */
    private static String everything(Start start, Use call) {
        StringBuilder all = new StringBuilder(Check.picture(made(start, call)));
        all.append(" forecasts ").append(forecasts(made(start, call)));
        for (int back = 1; back <= 15; back++) {
            DogTrials x = made(start, call);
            for (int k = 0; k < back; k++) {
                all.append(" undo ").append(answer(x::undo));
            }
            all.append(' ').append(Check.picture(x));
        }
        for (int slot = 0; slot <= 1; slot++) {
            int s = slot;
            DogTrials x = made(start, call);
            all.append(" restore ").append(answer(() -> x.restore(s))).append(' ').append(Check.picture(x));
        }
        DogTrials x = made(start, call);
        all.append(" text ").append(x.errorPosition()).append(' ').append(answer(x::load));
        return all.append(' ').append(Check.picture(x)).append(x.clearText()).toString();
    }

    private static String forecasts(DogTrials x) {
        StringBuilder all = new StringBuilder();
        for (int k = 0; k <= 12; k++) {
            all.append(x.order(k)).append(' ').append(x.standing(k)).append(' ');
        }
        for (int owner = 0; owner < 6; owner++) {
            all.append(x.owner(owner)).append(' ');
        }
        int dogs = x.about(0);
        for (int i = 0; i < dogs; i++) {
            all.append(x.bestPlace(i)).append(' ').append(x.mayLose(i, 1)).append(' ');
        }
        all.append(x.whyNot()).append(' ').append(x.runsLeft(1)).append(' ').append(x.contenders());
        return all.append(' ').append(x.simulate(1, 20)).toString();
    }

    /** Numbers below the least and above the most, the nearest and the farthest, and some that narrow types fold. */
    static int[] outside(int least, int most) {
        int[] all = {least - 1, most + 1, Integer.MIN_VALUE, Integer.MAX_VALUE, least - 256, least + 65536};
        return all;
    }
}

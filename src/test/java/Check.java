/** What the tests share: comparing answers, counting wrong ones, and making trials. */
final class Check {
    /** A call that is to throw. */
    interface Call {
        int make();
    }

    /** Twelve dogs in the order of their numbers, on a day of 600 minutes. */
    static final String TWELVE = "T600d001d102d203d304d405d506d007d108d209d310d411d512";

    private static int wrong = 0;

    private Check() {
    }

    static void same(String what, int got, int want) {
        if (got != want) {
            wrong++;
            System.out.println(what + ": answered " + got + ", due is " + want);
        }
    }

    static void sameText(String what, String got, String want) {
        if (!got.equals(want)) {
            wrong++;
            System.out.println(what + ": is " + got + ", due is " + want);
        }
    }

    private static void thrown(String what, Call call, Class<?> want) {
        try {
            int got = call.make();
            wrong++;
            System.out.println(what + ": answered " + got + ", due is " + want.getSimpleName());
        } catch (RuntimeException e) {
            if (e.getClass() != want) {
                wrong++;
                System.out.println(what + ": threw " + e + ", due is " + want.getSimpleName());
            }
        }
    }

    static void badIndex(String what, Call call) {
        thrown(what, call, IndexOutOfBoundsException.class);
    }

    static void badArgument(String what, Call call) {
        thrown(what, call, IllegalArgumentException.class);
    }

    static void badState(String what, Call call) {
        thrown(what, call, IllegalStateException.class);
    }

    /** Ends the test with the exit code 1 if an answer was wrong. */
    static void end() {
        if (wrong != 0) {
            System.out.println(wrong + " answers are not as due");
            System.exit(1);
        }
        System.out.println("all answers are as due");
    }

    static void type(DogTrials x, String text) {
        for (int k = 0; k < text.length(); k++) {
            x.append(text.charAt(k));
        }
    }

    /** A new object that has loaded the text. */
    static DogTrials trial(String text) {
        DogTrials x = new DogTrials();
        type(x, text);
        x.load();
        return x;
    }

    static long points(int a, int b, int c, int d, int e, int f) {
        return ((((a * 100L + b) * 100 + c) * 100 + d) * 100 + e) * 100 + f;
    }

    /** All answers about the state, so that two states can be compared. */
    static String picture(DogTrials x) {
        StringBuilder all = new StringBuilder();
        for (int what = 0; what <= 16; what++) {
            all.append(x.about(what)).append(' ');
        }
        int dogs = x.about(0);
        for (int i = 0; i < dogs; i++) {
            all.append("| ");
            for (int what = 0; what <= 7; what++) {
                all.append(x.dog(i, what)).append(' ');
            }
            for (int phase = 0; phase < 6; phase++) {
                all.append(x.lost(i, phase)).append(' ');
            }
        }
        return all.toString();
    }

    static void samePicture(String what, DogTrials x, String want) {
        sameText(what + ": the state", picture(x), want);
    }

    static void order(String what, DogTrials x, int... want) {
        for (int k = 0; k < want.length; k++) {
            same(what + ", order(" + k + ")", x.order(k), want[k]);
            same(what + ", dog(" + want[k] + ", 7)", x.dog(want[k], 7), k);
        }
        same(what + ", order(" + want.length + ")", x.order(want.length), DogTrials.NONE);
    }

    static void standing(String what, DogTrials x, int... want) {
        for (int k = 0; k < want.length; k++) {
            same(what + ", standing(" + k + ")", x.standing(k), want[k]);
        }
        same(what + ", standing(" + want.length + ")", x.standing(want.length), DogTrials.NONE);
    }
}

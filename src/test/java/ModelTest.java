/** Long runs of calls on the program and on the model, with the same answers. */
public final class ModelTest {
    private static final int RUNS = 1500;
    private static final int CALLS = 512;
    private static final int CALLS_OF_A_PICTURE = 18 + 12 * 14;
    private static final int CALLS_OF_A_DOG = 14;
    private static final int KINDS = 28;

    private static long next;

    public static void main(String[] args) {
        for (int run = 0; run < RUNS; run++) {
            next = run;
            DogTrials x = new DogTrials();
            Model m = new Model();
            String text = run % 3 == 0 ? "" : text();
            for (int k = 0; k < text.length(); k++) {
                x.append(text.charAt(k));
                m.append(text.charAt(k));
            }
            int calls = text.length();
            while (calls + CALLS_OF_A_DOG + CALLS_OF_A_PICTURE <= CALLS) {
                calls += play(run, x, m);
            }
            Check.samePicture("run " + run + " at the end", x, m.picture());
        }
        Check.end();
    }

    /** A number from 0 to bound - 1, always the same ones in a run. */
    private static int pick(int bound) {
        next = next * 6364136223846793005L + 1442695040888963407L;
        return (int) ((next >>> 33) % bound);
    }

    /** Mostly from least to most, now and then one below or above. */
    private static int near(int least, int most) {
        int odd = pick(40);
        return odd == 0 ? least - 1 : odd == 1 ? most + 1 : least + pick(most - least + 1);
    }

    private static String text() {
        StringBuilder text = new StringBuilder("T");
        text.append(pick(2) == 0 ? "060" : String.valueOf(100 + pick(250)));
        int dogs = pick(13);
        int draw = 1;
        for (int k = 0; k < dogs; k++) {
            text.append('d').append(pick(pick(3) == 0 ? 6 : 3));
            text.append(draw / 10).append(draw % 10);
            draw += 1 + pick(8);
        }
        if (pick(2) == 0) {
            text.append(pick(2) == 0 ? "r543210" : "r302154");
        }
        if (pick(8) == 0) {
            text.setCharAt(pick(text.length()), "0123456789Tdr".charAt(pick(13)));
        }
        return text.toString();
    }

    private static long losses() {
        int[] worth = {20, 10, 20, 30, 10, 10};
        long points = 0;
        int kind = pick(3);
        for (int w : worth) {
            // few different scores, so that dogs tie
            points = 100 * points + (kind == 0 ? pick(w + 1) : pick(4) == 0 ? 5 : 0);
        }
        return pick(30) == 0 ? points * 7 - 1 : points;
    }

    private static int character() {
        return pick(60) == 0 ? near(0, 255) : "0123456789Tdr".charAt(pick(13));
    }

    private static int rank() {
        int[] ranks = {12345, 543210, 102345, 453120, 201345, 12344, 312054, 123450};
        return pick(20) == 0 ? pick(1000000) - 5 : ranks[pick(ranks.length)];
    }

    private static long script(int n) {
        long script = 0;
        for (int k = 0; k < n; k++) {
            script = 10000 * script + command();
        }
        return pick(30) == 0 ? script * 10 : pick(60) == 0 ? -script : script;
    }

    private static int command() {
        switch (pick(11)) {
            case 0: return 1000 + 100 * pick(10) + near(1, 30);
            case 1: return 2000 + pick(13);
            case 2: return 3000 + 100 * near(0, 5) + pick(13);
            case 3: return 4000 + near(60, 600);
            case 4: return 5000 + 10 * pick(4) + pick(10);
            case 5: return 6000 + 100 * pick(10) + pick(12);
            case 6: return 7000 + pick(100);
            case 7: return 8000 + pick(6);
            case 8: return 9000 + pick(3);
            default: return pick(10000);
        }
    }

    /** Actions come more often than the rest. */
    private static int kind() {
        int kind = pick(60);
        return kind < KINDS ? kind : kind < 42 ? 13 : kind < 48 ? 14 : kind < 52 ? 15 : kind < 56 ? 11 : 27;
    }

    /** Makes the same call on both; answers how many calls it was. */
    private static int play(int run, DogTrials x, Model m) {
        int kind = kind();
        if (kind <= 3 && pick(6) != 0) {
            kind = 13;
        }
        int a = pick(5) == 0 ? near(0, 11) : pick(Math.max(1, m.about(0)));
        int[] b = {near(0, 7), near(0, 5), near(1, 12), near(1, 30), near(60, 600), near(1, 99), near(0, 1), rank(),
            character(), near(0, 16), near(0, 12), near(1, 4), pick(10)};
        long losses = losses();
        long script = script(Math.max(1, Math.min(4, b[11])));
        int got;
        try {
            got = answer(x, kind, a, b, losses, script);
        } catch (IndexOutOfBoundsException e) {
            got = e.getClass() == IndexOutOfBoundsException.class ? Model.INDEX : -104;
        } catch (IllegalArgumentException e) {
            got = Model.ARGUMENT;
        } catch (IllegalStateException e) {
            got = Model.STATE;
        }
        Check.same("run " + run + ", kind " + kind + ", " + a, got, due(m, kind, a, b, losses, script));
        return kind < KINDS - 1 ? 1 : CALLS_OF_A_DOG;
    }

    private static int answer(DogTrials x, int kind, int a, int[] b, long losses, long script) {
        switch (kind) {
            case 0: return x.append(b[8]);
            case 1: return b[12] == 0 ? x.clearText() : 0;
            case 2: return x.errorPosition();
            case 3: return x.load();
            case 4: return x.about(b[9]);
            case 5: return x.dog(a, b[0]);
            case 6: return x.lost(a, b[1]);
            case 7: return x.order(b[10]);
            case 8: return x.standing(b[10]);
            case 9: return x.owner(b[1]);
            case 10: case 11: return x.enter(b[1], b[5]);
            case 12: return b[12] < 3 ? x.withdraw(a) : 0;
            case 13: return x.run(losses, b[3]);
            case 14: return x.interfere(a, b[1]);
            case 15: return x.nextDay(b[12] < 7 ? 60 : b[4]);
            case 16: return x.setRank(b[7]);
            case 17: return x.setDraw(a, b[5]);
            case 18: return x.undo();
            case 19: return x.whyNot();
            case 20: return x.runsLeft(b[3]);
            case 21: return x.bestPlace(a);
            case 22: return x.mayLose(a, b[2]);
            case 23: return x.contenders();
            case 24: return x.runScript(b[11], script);
            case 25: return x.simulate(losses * 31 + script, b[5]);
            case 26: return b[12] < 5 ? x.save(b[6]) : x.restore(b[6]);
            default: return numbersOf(x, a);
        }
    }

    private static int due(Model m, int kind, int a, int[] b, long losses, long script) {
        switch (kind) {
            case 0: return m.append(b[8]);
            case 1: return b[12] == 0 ? m.clearText() : 0;
            case 2: return m.errorPosition();
            case 3: return m.load();
            case 4: return m.about(b[9]);
            case 5: return m.dog(a, b[0]);
            case 6: return m.lost(a, b[1]);
            case 7: return m.order(b[10]);
            case 8: return m.standing(b[10]);
            case 9: return m.owner(b[1]);
            case 10: case 11: return m.enter(b[1], b[5]);
            case 12: return b[12] < 3 ? m.withdraw(a) : 0;
            case 13: return m.run(losses, b[3]);
            case 14: return m.interfere(a, b[1]);
            case 15: return m.nextDay(b[12] < 7 ? 60 : b[4]);
            case 16: return m.setRank(b[7]);
            case 17: return m.setDraw(a, b[5]);
            case 18: return m.undo();
            case 19: return m.whyNot();
            case 20: return m.runsLeft(b[3]);
            case 21: return m.bestPlace(a);
            case 22: return m.mayLose(a, b[2]);
            case 23: return m.contenders();
            case 24: return m.runScript(b[11], script);
            case 25: return m.simulate(losses * 31 + script, b[5]);
            case 26: return b[12] < 5 ? m.save(b[6]) : m.restore(b[6]);
            default: return m.numbersOf(a);
        }
    }

    private static int numbersOf(DogTrials x, int i) {
        int all = x.dog(i, 0);
        for (int what = 1; what <= 7; what++) {
            all = 31 * all + x.dog(i, what);
        }
        for (int phase = 0; phase < 6; phase++) {
            all = 31 * all + x.lost(i, phase);
        }
        return all;
    }
}

/**
 * Sheepdog trials: the order of the dogs, their runs by phases, interference,
 * days that end with the light, standings, undo, scripts and simulations.
 */
public final class DogTrials {
    public static final int NONE = -9;

    private static final int MAX_DOGS = 12;
    private static final int OWNERS = 6;
    private static final int PHASES = 6;
    private static final int[] WORTH = {20, 10, 20, 30, 10, 10};
    private static final int FULL_SCORE = 100;
    private static final long MAX_POINTS = 999999999999L;

    private static final int NOT_RUN = 0;
    private static final int HAS_RUN = 1;
    private static final int RUNS_ANEW = 2;
    private static final int WITHDRAWN = 3;

    private static final int NO_DOG_TO_RUN = 1;
    private static final int DAY_IS_OVER = 2;

    private static final int MIN_DRAW = 1;
    private static final int MAX_DRAW = 99;
    private static final int MAX_MINUTES = 30;
    private static final int MIN_SUNSET = 60;
    private static final int MAX_SUNSET = 600;
    private static final int NEW_SUNSET = 300;

    private static final int MAX_TEXT = 70;
    private static final int MAX_CODE = 255;
    private static final int MAX_REMEMBERED = 14;
    private static final int SLOTS = 2;
    private static final int MAX_COMMANDS = 4;
    private static final int MAX_ROUNDS = 99;

    private final Trial now = new Trial();
    private final Trial supposed = new Trial();
    private final Course course = new Course();
    private final Rehearsal rehearsal = new Rehearsal();
    private final Memory memory = new Memory();
    private final TrialText text = new TrialText();
    private final Trial[] slots = new Trial[SLOTS];
    private final boolean[] saved = new boolean[SLOTS];

    public DogTrials() {
        for (int slot = 0; slot < SLOTS; slot++) {
            slots[slot] = new Trial();
        }
    }

    // ---- text

    public int append(int c) throws IllegalArgumentException, IllegalStateException {
        if (c < 0 || c > MAX_CODE) {
            throw new IllegalArgumentException("the character is out of range");
        }
        if (text.isFull()) {
            throw new IllegalStateException("the text is full");
        }
        return text.add(c);
    }

    public int clearText() {
        return text.empty();
    }

    public int errorPosition() {
        return text.readInto(supposed);
    }

    public int load() throws IllegalStateException {
        if (text.readInto(supposed) != NONE) {
            throw new IllegalStateException("the text is not a trial");
        }
        now.copyFrom(supposed);
        memory.forgetAll();
        for (int slot = 0; slot < SLOTS; slot++) {
            saved[slot] = false;
        }
        return now.dogs;
    }

    // ---- what there is

    public int about(int what) throws IllegalArgumentException {
        if (what < 0 || what > 16) {
            throw new IllegalArgumentException("there is no such number");
        }
        switch (what) {
            case 0: return now.dogs;
            case 1: return now.dogsToRun();
            case 2: return now.dogsWithRun();
            case 3: return now.dogsWithdrawn();
            case 4: return now.day;
            case 5: return now.minute;
            case 6: return now.sunset;
            case 7: return now.last;
            case 8: return now.counted;
            case 9: return now.tooDark;
            case 10: return now.interferences;
            default: return now.rank[what - 11];
        }
    }

    public int dog(int i, int what) throws IndexOutOfBoundsException, IllegalArgumentException {
        if (!now.hasDog(i)) {
            throw new IndexOutOfBoundsException("there is no such dog");
        }
        if (what < 0 || what > 7) {
            throw new IllegalArgumentException("there is no such number");
        }
        switch (what) {
            case 0: return now.owners[i];
            case 1: return now.draws[i];
            case 2: return now.states[i];
            case 3: return now.ran[i] ? 1 : 0;
            case 4: return now.scoreOf(i);
            case 5: return now.anew[i];
            case 6: return now.placeOf(i);
            default: return course.placeInOrder(now, i);
        }
    }

    public int lost(int i, int phase) throws IndexOutOfBoundsException {
        if (!now.hasDog(i) || !isPhase(phase)) {
            throw new IndexOutOfBoundsException("there is no such dog or phase");
        }
        return now.ran[i] ? now.lossOf(i, phase) : NONE;
    }

    public int order(int k) throws IllegalArgumentException {
        if (k < 0) {
            throw new IllegalArgumentException("k is negative");
        }
        return course.dogInOrder(now, k);
    }

    public int standing(int k) throws IllegalArgumentException {
        if (k < 0) {
            throw new IllegalArgumentException("k is negative");
        }
        for (int i = 0; i < now.dogs; i++) {
            if (now.ran[i] && now.dogsAheadInStanding(i) == k) {
                return i;
            }
        }
        return NONE;
    }

    public int owner(int owner) throws IllegalArgumentException {
        if (!isOwner(owner)) {
            throw new IllegalArgumentException("there is no such owner");
        }
        return now.scoreOfOwner(owner);
    }

    // ---- actions

    public int enter(int owner, int draw) throws IllegalArgumentException, IllegalStateException {
        if (!isOwner(owner) || !isDraw(draw)) {
            throw new IllegalArgumentException("owner or draw is out of range");
        }
        if (now.dogs >= MAX_DOGS || now.dogWithDraw(draw) != NONE) {
            throw new IllegalStateException("there are 12 dogs, or one with this draw");
        }
        memory.remember(now);
        return now.addDog(owner, draw);
    }

    public int withdraw(int i) throws IndexOutOfBoundsException, IllegalStateException {
        if (!now.hasDog(i)) {
            throw new IndexOutOfBoundsException("there is no such dog");
        }
        if (now.states[i] == WITHDRAWN) {
            throw new IllegalStateException("the dog has withdrawn");
        }
        memory.remember(now);
        int before = now.states[i];
        now.states[i] = WITHDRAWN;
        return before;
    }

    public int run(long points, int minutes) throws IllegalArgumentException, IllegalStateException {
        if (!course.setLosses(points) || !isMinutes(minutes)) {
            throw new IllegalArgumentException("points or minutes are out of range");
        }
        int first = course.firstToRun(now);
        if (first == NONE || now.obstacle() != 0) {
            throw new IllegalStateException("no run can begin now");
        }
        memory.remember(now);
        return course.letRun(now, first, minutes) ? now.scoreOf(first) : NONE;
    }

    public int interfere(int i, int phase) throws IndexOutOfBoundsException, IllegalStateException {
        if (!now.hasDog(i) || !isPhase(phase)) {
            throw new IndexOutOfBoundsException("there is no such dog or phase");
        }
        if (now.states[i] != HAS_RUN) {
            throw new IllegalStateException("the dog has not just run");
        }
        memory.remember(now);
        now.interfereWith(i, phase);
        return now.scoreOf(i);
    }

    public int nextDay(int sunset) throws IllegalArgumentException {
        if (!isSunset(sunset)) {
            throw new IllegalArgumentException("the sunset is out of range");
        }
        memory.remember(now);
        now.beginDay(sunset);
        return now.day;
    }

    public int setRank(int rank) throws IllegalArgumentException {
        supposed.copyFrom(now);
        if (!supposed.takeRank(rank)) {
            throw new IllegalArgumentException("the rank does not tell each phase once");
        }
        int others = 0;
        for (int i = 0; i < now.dogs; i++) {
            if (now.placeOf(i) != supposed.placeOf(i)) {
                others++;
            }
        }
        memory.remember(now);
        now.copyFrom(supposed);
        return others;
    }

    public int setDraw(int i, int draw)
            throws IndexOutOfBoundsException, IllegalArgumentException, IllegalStateException {
        if (!now.hasDog(i)) {
            throw new IndexOutOfBoundsException("there is no such dog");
        }
        if (!isDraw(draw)) {
            throw new IllegalArgumentException("the draw is out of range");
        }
        int holder = now.dogWithDraw(draw);
        if (holder != NONE && holder != i) {
            throw new IllegalStateException("another dog has this draw");
        }
        memory.remember(now);
        int before = now.draws[i];
        now.draws[i] = draw;
        return before;
    }

    public int undo() throws IllegalStateException {
        if (memory.isEmpty()) {
            throw new IllegalStateException("no state is remembered");
        }
        return memory.takeBack(now);
    }

    // ---- what would be

    public int whyNot() {
        return now.obstacle();
    }

    public int runsLeft(int minutes) throws IllegalArgumentException {
        if (!isMinutes(minutes)) {
            throw new IllegalArgumentException("the minutes are out of range");
        }
        return Math.min(now.dogsToRun(), (now.sunset - now.minute) / minutes);
    }

    public int bestPlace(int i) throws IndexOutOfBoundsException {
        if (!now.hasDog(i)) {
            throw new IndexOutOfBoundsException("there is no such dog");
        }
        return bestPlaceOf(i);
    }

    public int mayLose(int i, int place) throws IndexOutOfBoundsException, IllegalArgumentException {
        if (!now.hasDog(i)) {
            throw new IndexOutOfBoundsException("there is no such dog");
        }
        if (place < 1 || place > MAX_DOGS) {
            throw new IllegalArgumentException("the place is out of range");
        }
        if (!now.isToRun(i)) {
            return NONE;
        }
        supposeFaultlessRun(i);
        int best = supposed.scoreOf(i);
        for (int points = now.worthToRun(i); points >= 0; points--) {
            if (now.dogsWithScoreAbove(best - points) <= place - 1) {
                return points;
            }
        }
        return NONE;
    }

    public int contenders() {
        int count = 0;
        for (int i = 0; i < now.dogs; i++) {
            if (bestPlaceOf(i) == 1) {
                count++;
            }
        }
        return count;
    }

    private int bestPlaceOf(int i) {
        if (!now.isToRun(i)) {
            return now.placeOf(i);
        }
        supposeFaultlessRun(i);
        return supposed.placeOf(i);
    }

    private void supposeFaultlessRun(int i) {
        supposed.copyFrom(now);
        course.setSameLosses(0);
        supposed.noteRun(i, course.losses);
    }

    // ---- scripts, simulations

    public int runScript(int n, long script) throws IllegalArgumentException {
        if (n < 1 || n > MAX_COMMANDS || !rehearsal.readScript(n, script)) {
            throw new IllegalArgumentException("n or the script is out of range");
        }
        return rehearsal.firstFailure(now, n);
    }

    public int simulate(long seed, int m) throws IllegalArgumentException {
        if (m < 1 || m > MAX_ROUNDS) {
            throw new IllegalArgumentException("m is out of range");
        }
        return rehearsal.playRounds(now, seed, m);
    }

    // ---- save slots

    public int save(int slot) throws IndexOutOfBoundsException {
        if (slot < 0 || slot >= SLOTS) {
            throw new IndexOutOfBoundsException("there is no such save slot");
        }
        slots[slot].copyFrom(now);
        saved[slot] = true;
        return now.dogsWithRun();
    }

    public int restore(int slot) throws IndexOutOfBoundsException, IllegalStateException {
        if (slot < 0 || slot >= SLOTS) {
            throw new IndexOutOfBoundsException("there is no such save slot");
        }
        if (!saved[slot]) {
            throw new IllegalStateException("nothing has been saved in this slot");
        }
        now.copyFrom(slots[slot]);
        memory.forgetAll();
        return now.dogsWithRun();
    }

    // ---- ranges

    private static boolean isOwner(int number) {
        return number >= 0 && number < OWNERS;
    }

    private static boolean isPhase(int number) {
        return number >= 0 && number < PHASES;
    }

    private static boolean isDraw(int number) {
        return number >= MIN_DRAW && number <= MAX_DRAW;
    }

    private static boolean isMinutes(int number) {
        return number >= 1 && number <= MAX_MINUTES;
    }

    private static boolean isSunset(int number) {
        return number >= MIN_SUNSET && number <= MAX_SUNSET;
    }

    /** The state: everything but the text and the save slots. */
    private static final class Trial {
        int dogs;
        final int[] owners = new int[MAX_DOGS];
        final int[] draws = new int[MAX_DOGS];
        final int[] states = new int[MAX_DOGS];
        final boolean[] ran = new boolean[MAX_DOGS];
        /** The phase from which on a dog runs anew; PHASES if it does not. */
        final int[] anew = new int[MAX_DOGS];
        /** What was noted, PHASES entries for each dog; those from anew on are worth nothing. */
        final int[] noted = new int[MAX_DOGS * PHASES];
        final int[] rank = new int[PHASES];
        int day;
        int minute;
        int sunset;
        int last;
        int counted;
        int tooDark;
        int interferences;

        Trial() {
            makeNew();
        }

        /** Dogs from number dogs on need no clearing: addDog sets all of a dog. */
        void makeNew() {
            dogs = 0;
            for (int phase = 0; phase < PHASES; phase++) {
                rank[phase] = phase;
            }
            day = 0;
            minute = 0;
            sunset = NEW_SUNSET;
            last = NONE;
            counted = 0;
            tooDark = 0;
            interferences = 0;
        }

        void copyFrom(Trial other) {
            dogs = other.dogs;
            System.arraycopy(other.owners, 0, owners, 0, MAX_DOGS);
            System.arraycopy(other.draws, 0, draws, 0, MAX_DOGS);
            System.arraycopy(other.states, 0, states, 0, MAX_DOGS);
            System.arraycopy(other.anew, 0, anew, 0, MAX_DOGS);
            System.arraycopy(other.noted, 0, noted, 0, MAX_DOGS * PHASES);
            System.arraycopy(other.rank, 0, rank, 0, PHASES);
            for (int i = 0; i < MAX_DOGS; i++) {
                ran[i] = other.ran[i];
            }
            day = other.day;
            minute = other.minute;
            sunset = other.sunset;
            last = other.last;
            counted = other.counted;
            tooDark = other.tooDark;
            interferences = other.interferences;
        }

        boolean hasDog(int i) {
            return i >= 0 && i < dogs;
        }

        boolean isToRun(int i) {
            return states[i] == NOT_RUN || states[i] == RUNS_ANEW;
        }

        int dogsToRun() {
            int count = 0;
            for (int i = 0; i < dogs; i++) {
                if (isToRun(i)) {
                    count++;
                }
            }
            return count;
        }

        int dogsWithRun() {
            int count = 0;
            for (int i = 0; i < dogs; i++) {
                if (ran[i]) {
                    count++;
                }
            }
            return count;
        }

        int dogsWithdrawn() {
            int count = 0;
            for (int i = 0; i < dogs; i++) {
                if (states[i] == WITHDRAWN) {
                    count++;
                }
            }
            return count;
        }

        int dogWithDraw(int draw) {
            for (int i = 0; i < dogs; i++) {
                if (draws[i] == draw) {
                    return i;
                }
            }
            return NONE;
        }

        int ownerThatRanLast() {
            return last >= 0 && last < dogs ? owners[last] : NONE;
        }

        int lossOf(int i, int phase) {
            return phase < anew[i] ? noted[i * PHASES + phase] : WORTH[phase];
        }

        int scoreOf(int i) {
            if (!ran[i]) {
                return 0;
            }
            int score = FULL_SCORE;
            for (int phase = 0; phase < PHASES; phase++) {
                score -= lossOf(i, phase);
            }
            return score;
        }

        int sumOfScores() {
            int sum = 0;
            for (int i = 0; i < dogs; i++) {
                sum += scoreOf(i);
            }
            return sum;
        }

        int scoreOfOwner(int owner) {
            int best = 0;
            int second = 0;
            for (int i = 0; i < dogs; i++) {
                if (owners[i] == owner) {
                    int score = scoreOf(i);
                    second = Math.max(second, Math.min(best, score));
                    best = Math.max(best, score);
                }
            }
            return best + second;
        }

        boolean isBetter(int a, int b) {
            int scoreA = scoreOf(a);
            int scoreB = scoreOf(b);
            if (scoreA != scoreB) {
                return scoreA > scoreB;
            }
            for (int k = 0; k < PHASES; k++) {
                int phase = rank[k];
                int lossA = lossOf(a, phase);
                int lossB = lossOf(b, phase);
                if (lossA != lossB) {
                    return lossA < lossB;
                }
            }
            return false;
        }

        int placeOf(int i) {
            if (!ran[i]) {
                return NONE;
            }
            int place = 1;
            for (int j = 0; j < dogs; j++) {
                if (ran[j] && isBetter(j, i)) {
                    place++;
                }
            }
            return place;
        }

        int dogsAheadInStanding(int i) {
            int ahead = 0;
            for (int j = 0; j < dogs; j++) {
                if (ran[j] && isAheadInStanding(j, i)) {
                    ahead++;
                }
            }
            return ahead;
        }

        private boolean isAheadInStanding(int a, int b) {
            return isBetter(a, b) || (!isBetter(b, a) && draws[a] < draws[b]);
        }

        int dogsWithScoreAbove(int score) {
            int count = 0;
            for (int i = 0; i < dogs; i++) {
                if (scoreOf(i) > score) {
                    count++;
                }
            }
            return count;
        }

        private int firstPhaseToRun(int i) {
            return states[i] == RUNS_ANEW ? anew[i] : 0;
        }

        int worthToRun(int i) {
            int sum = 0;
            for (int phase = firstPhaseToRun(i); phase < PHASES; phase++) {
                sum += WORTH[phase];
            }
            return sum;
        }

        int obstacle() {
            if (dogsToRun() == 0) {
                return NO_DOG_TO_RUN;
            }
            return minute >= sunset ? DAY_IS_OVER : 0;
        }

        int addDog(int owner, int draw) {
            int i = dogs;
            if (i >= MAX_DOGS) {
                return NONE;
            }
            owners[i] = owner;
            draws[i] = draw;
            states[i] = NOT_RUN;
            ran[i] = false;
            anew[i] = PHASES;
            dogs++;
            return i;
        }

        void noteRun(int i, int[] losses) {
            for (int phase = firstPhaseToRun(i); phase < PHASES; phase++) {
                noted[i * PHASES + phase] = losses[phase];
            }
            states[i] = HAS_RUN;
            ran[i] = true;
            anew[i] = PHASES;
        }

        void interfereWith(int i, int phase) {
            states[i] = RUNS_ANEW;
            anew[i] = phase;
            interferences++;
        }

        void beginDay(int nextSunset) {
            day++;
            minute = 0;
            sunset = nextSunset;
        }

        /** Takes a rank of six digits; if it is none, answers false and may leave half of it. */
        boolean takeRank(int digits) {
            if (digits < 0) {
                return false;
            }
            int rest = digits;
            int seen = 0;
            for (int k = PHASES - 1; k >= 0; k--) {
                int phase = rest % 10;
                if (phase >= PHASES || (seen >> phase & 1) != 0) {
                    return false;
                }
                seen |= 1 << phase;
                rank[k] = phase;
                rest /= 10;
            }
            return rest == 0;
        }
    }

    /** Makes the order of a trial and lets its dogs run. */
    private static final class Course {
        private final int[] row = new int[MAX_DOGS];
        private final boolean[] placed = new boolean[MAX_DOGS];
        private int length;
        final int[] losses = new int[PHASES];

        int firstToRun(Trial trial) {
            makeOrder(trial);
            return length > 0 ? row[0] : NONE;
        }

        int dogInOrder(Trial trial, int k) {
            makeOrder(trial);
            return k >= 0 && k < length ? row[k] : NONE;
        }

        int placeInOrder(Trial trial, int dog) {
            makeOrder(trial);
            for (int k = 0; k < length; k++) {
                if (row[k] == dog) {
                    return k;
                }
            }
            return NONE;
        }

        private void makeOrder(Trial trial) {
            length = 0;
            for (int i = 0; i < MAX_DOGS; i++) {
                placed[i] = false;
            }
            int ownerBefore = trial.ownerThatRanLast();
            for (int k = 0; k < trial.dogs; k++) {
                int next = nextDog(trial, NOT_RUN, ownerBefore);
                if (next == NONE) {
                    next = nextDog(trial, RUNS_ANEW, ownerBefore);
                }
                if (next == NONE) {
                    return;
                }
                row[k] = next;
                length = k + 1;
                placed[next] = true;
                ownerBefore = trial.owners[next];
            }
        }

        private int nextDog(Trial trial, int state, int ownerBefore) {
            int[] draws = trial.draws;
            int ofAnyOwner = NONE;
            int ofOtherOwner = NONE;
            for (int i = 0; i < trial.dogs; i++) {
                if (placed[i] || trial.states[i] != state) {
                    continue;
                }
                if (ofAnyOwner < 0 || draws[i] < draws[ofAnyOwner]) {
                    ofAnyOwner = i;
                }
                if (trial.owners[i] != ownerBefore && (ofOtherOwner < 0 || draws[i] < draws[ofOtherOwner])) {
                    ofOtherOwner = i;
                }
            }
            return ofOtherOwner == NONE ? ofAnyOwner : ofOtherOwner;
        }

        /** Takes two digits for each phase; answers false if they are out of range. */
        boolean setLosses(long points) {
            if (points < 0 || points > MAX_POINTS) {
                return false;
            }
            long rest = points;
            for (int phase = PHASES - 1; phase >= 0; phase--) {
                losses[phase] = (int) (rest % 100);
                if (losses[phase] > WORTH[phase]) {
                    return false;
                }
                rest /= 100;
            }
            return true;
        }

        void setSameLosses(int points) {
            for (int phase = 0; phase < PHASES; phase++) {
                losses[phase] = points;
            }
        }

        /** The losses set before are those of this run; answers whether it counts. */
        boolean letRun(Trial trial, int dog, int minutes) {
            trial.last = dog;
            if (trial.minute + minutes > trial.sunset) {
                trial.minute = trial.sunset;
                trial.tooDark++;
                return false;
            }
            trial.minute += minutes;
            trial.counted++;
            trial.noteRun(dog, losses);
            return true;
        }
    }

    /** Plays scripts and simulations on a copy of the state. */
    private static final class Rehearsal {
        private final Trial copy = new Trial();
        private final Course course = new Course();
        private final int[] commands = new int[MAX_COMMANDS];

        /** Answers false if the script is negative or longer than n commands. */
        boolean readScript(int n, long script) {
            if (script < 0) {
                return false;
            }
            long rest = script;
            for (int k = n - 1; k >= 0; k--) {
                commands[k] = (int) (rest % 10000);
                rest /= 10000;
            }
            return rest == 0;
        }

        int firstFailure(Trial from, int n) {
            copy.copyFrom(from);
            for (int k = 0; k < n; k++) {
                if (!succeeds(commands[k])) {
                    return k;
                }
            }
            return NONE;
        }

        private boolean succeeds(int command) {
            int second = command / 100 % 10;
            int lowTwo = command % 100;
            int lowThree = command % 1000;
            switch (command / 1000) {
                case 1: return letFirstRun(second, lowTwo);
                case 2: return second == 0 && takeOut(lowTwo);
                case 3: return tellInterference(lowTwo, second);
                case 4: return startDay(lowThree);
                case 5: return second == 0 && isInOrder(command % 10, lowTwo / 10);
                case 6: return copy.hasDog(lowTwo) && copy.placeOf(lowTwo) == second;
                case 7: return copy.minute >= lowThree;
                case 8: return second == 0 && copy.dogsToRun() == lowTwo;
                case 9: return second == 0 && copy.obstacle() == lowTwo;
                default: return false;
            }
        }

        private boolean letFirstRun(int points, int minutes) {
            int first = course.firstToRun(copy);
            if (!isMinutes(minutes) || first == NONE || copy.obstacle() != 0) {
                return false;
            }
            course.setSameLosses(points);
            return course.letRun(copy, first, minutes);
        }

        private boolean takeOut(int dog) {
            if (!copy.hasDog(dog) || copy.states[dog] == WITHDRAWN) {
                return false;
            }
            copy.states[dog] = WITHDRAWN;
            return true;
        }

        private boolean tellInterference(int dog, int phase) {
            if (!copy.hasDog(dog) || !isPhase(phase) || copy.states[dog] != HAS_RUN) {
                return false;
            }
            copy.interfereWith(dog, phase);
            return true;
        }

        private boolean startDay(int sunset) {
            if (!isSunset(sunset)) {
                return false;
            }
            copy.beginDay(sunset);
            return true;
        }

        private boolean isInOrder(int dog, int k) {
            return copy.hasDog(dog) && course.dogInOrder(copy, k) == dog;
        }

        int playRounds(Trial from, long seed, int rounds) {
            copy.copyFrom(from);
            long x = seed;
            for (int k = 0; k < rounds; k++) {
                x = x * 6364136223846793005L + 1442695040888963407L;
                playRound((int) (x >>> 33));
            }
            return 1000 * copy.day + copy.sumOfScores();
        }

        private void playRound(int r) {
            int obstacle = copy.obstacle();
            if (obstacle == DAY_IS_OVER) {
                copy.beginDay(MIN_SUNSET + r / 8 % 541);
            } else if (obstacle == 0) {
                playRun(r);
            } else if (copy.dogs > 0) {
                tellInterference(r / 8 % copy.dogs, r / 128 % PHASES);
            }
        }

        private void playRun(int r) {
            int first = course.firstToRun(copy);
            if (first == NONE) {
                return;
            }
            for (int phase = 0; phase < PHASES; phase++) {
                course.losses[phase] = r / 256 % (WORTH[phase] + 1);
            }
            course.letRun(copy, first, 1 + r / 8 % MAX_MINUTES);
        }
    }

    /** The states before the last actions; the oldest one makes room for a new one. */
    private static final class Memory {
        private final Trial[] states = new Trial[MAX_REMEMBERED];
        private int oldest;
        private int count;

        Memory() {
            for (int k = 0; k < MAX_REMEMBERED; k++) {
                states[k] = new Trial();
            }
        }

        boolean isEmpty() {
            return count == 0;
        }

        void forgetAll() {
            count = 0;
        }

        void remember(Trial trial) {
            if (count == MAX_REMEMBERED) {
                oldest = (oldest + 1) % MAX_REMEMBERED;
                count--;
            }
            states[(oldest + count) % MAX_REMEMBERED].copyFrom(trial);
            count++;
        }

        int takeBack(Trial trial) {
            if (count > 0) {
                count--;
                trial.copyFrom(states[(oldest + count) % MAX_REMEMBERED]);
            }
            return count;
        }
    }

    /** The text buffer and its reader. */
    private static final class TrialText {
        private final int[] codes = new int[MAX_TEXT];
        private int length;
        private int at;

        boolean isFull() {
            return length >= MAX_TEXT;
        }

        int add(int code) {
            if (length < MAX_TEXT) {
                codes[length] = code;
                length++;
            }
            return length;
        }

        int empty() {
            int before = length;
            length = 0;
            return before;
        }

        /** Answers the error position; the trial is only of use if that is NONE. */
        int readInto(Trial trial) {
            trial.makeNew();
            at = 0;
            if (!readTrial(trial)) {
                return at;
            }
            return at < length ? at : NONE;
        }

        /** Each reader stops before the first character that is not allowed. */
        private boolean readTrial(Trial trial) {
            if (!readSign('T') || !readSunset(trial)) {
                return false;
            }
            for (int k = 0; k < MAX_DOGS && readSign('d'); k++) {
                if (!readDog(trial)) {
                    return false;
                }
            }
            return !readSign('r') || readRank(trial);
        }

        private boolean readSign(char sign) {
            if (at >= length || codes[at] != sign) {
                return false;
            }
            at++;
            return true;
        }

        /** The digit at the present place, which stays; NONE if there is none. */
        private int digit() {
            if (at >= length || codes[at] < '0' || codes[at] > '9') {
                return NONE;
            }
            return codes[at] - '0';
        }

        private boolean readSunset(Trial trial) {
            int number = 0;
            int unit = 100;
            for (int k = 0; k < 3; k++) {
                int digit = digit();
                if (digit == NONE || !beginsSunset(number + digit * unit, unit)) {
                    return false;
                }
                number += digit * unit;
                unit /= 10;
                at++;
            }
            trial.sunset = number;
            return true;
        }

        private static boolean beginsSunset(int smallest, int unit) {
            return smallest + unit - 1 >= MIN_SUNSET && smallest <= MAX_SUNSET;
        }

        private boolean readDog(Trial trial) {
            int owner = digit();
            if (owner == NONE || !isOwner(owner)) {
                return false;
            }
            at++;
            int tens = digit();
            if (tens == NONE || !beginsFreeDraw(trial, tens)) {
                return false;
            }
            at++;
            int ones = digit();
            if (ones == NONE || !isFreeDraw(trial, 10 * tens + ones)) {
                return false;
            }
            at++;
            trial.addDog(owner, 10 * tens + ones);
            return true;
        }

        private static boolean beginsFreeDraw(Trial trial, int tens) {
            for (int ones = 0; ones < 10; ones++) {
                if (isFreeDraw(trial, 10 * tens + ones)) {
                    return true;
                }
            }
            return false;
        }

        private static boolean isFreeDraw(Trial trial, int draw) {
            return isDraw(draw) && trial.dogWithDraw(draw) == NONE;
        }

        private boolean readRank(Trial trial) {
            int seen = 0;
            for (int k = 0; k < PHASES; k++) {
                int phase = digit();
                if (phase == NONE || !isPhase(phase) || (seen >> phase & 1) != 0) {
                    return false;
                }
                seen |= 1 << phase;
                trial.rank[k] = phase;
                at++;
            }
            return true;
        }
    }
}

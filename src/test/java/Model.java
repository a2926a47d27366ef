import java.util.ArrayDeque;
import java.util.ArrayList;
import java.util.Arrays;
import java.util.Collections;
import java.util.Comparator;
import java.util.Deque;
import java.util.List;

/** The document told a second time, with lists and copies, for ModelTest to compare with. */
final class Model {
    static final int NONE = -9;
    static final int INDEX = -101;
    static final int ARGUMENT = -102;
    static final int STATE = -103;

    private static final int[] WORTH = {20, 10, 20, 30, 10, 10};

    private static final class Dog {
        int owner;
        int draw;
        int state = 0;
        int[] lost = null;
        int anew = 6;

        Dog copy() {
            Dog d = new Dog();
            d.owner = owner;
            d.draw = draw;
            d.state = state;
            d.lost = lost == null ? null : lost.clone();
            d.anew = anew;
            return d;
        }

        int loss(int phase) {
            return phase >= anew ? WORTH[phase] : lost[phase];
        }

        int score() {
            int score = lost == null ? 0 : 100;
            for (int phase = 0; lost != null && phase < 6; phase++) {
                score -= loss(phase);
            }
            return score;
        }
    }

    private static final class World {
        List<Dog> dogs = new ArrayList<>();
        String rank = "012345";
        int day = 0;
        int minute = 0;
        int sunset = 300;
        Dog last = null;
        int counted = 0;
        int dark = 0;
        int interfered = 0;

        World copy() {
            World w = new World();
            for (Dog d : dogs) {
                w.dogs.add(d.copy());
            }
            w.rank = rank;
            w.day = day;
            w.minute = minute;
            w.sunset = sunset;
            w.last = last == null ? null : w.dogs.get(dogs.indexOf(last));
            w.counted = counted;
            w.dark = dark;
            w.interfered = interfered;
            return w;
        }

        List<Dog> order() {
            List<Dog> all = new ArrayList<>();
            Dog before = last;
            for (int state = 0; state <= 2; state += 2) {
                List<Dog> rest = new ArrayList<>();
                for (Dog d : dogs) {
                    if (d.state == state) {
                        rest.add(d);
                    }
                }
                rest.sort(Comparator.comparingInt((Dog d) -> d.draw));
                while (!rest.isEmpty()) {
                    Dog next = rest.get(0);
                    for (Dog d : rest) {
                        if (before != null && d.owner != before.owner) {
                            next = d;
                            break;
                        }
                    }
                    rest.remove(next);
                    all.add(next);
                    before = next;
                }
            }
            return all;
        }

        int compare(Dog a, Dog b) {
            if (a.score() != b.score()) {
                return b.score() - a.score();
            }
            for (char phase : rank.toCharArray()) {
                int difference = a.loss(phase - '0') - b.loss(phase - '0');
                if (difference != 0) {
                    return difference;
                }
            }
            return 0;
        }

        List<Dog> standing() {
            List<Dog> all = new ArrayList<>();
            for (Dog d : dogs) {
                if (d.lost != null) {
                    all.add(d);
                }
            }
            all.sort((a, b) -> compare(a, b) != 0 ? compare(a, b) : a.draw - b.draw);
            return all;
        }

        int place(Dog d) {
            if (d.lost == null) {
                return NONE;
            }
            int place = 1;
            for (Dog other : standing()) {
                if (compare(other, d) == 0) {
                    return place;
                }
                place++;
            }
            return NONE;
        }

        int whyNot() {
            return order().isEmpty() ? 1 : minute == sunset ? 2 : 0;
        }

        boolean run(int[] losses, int minutes) {
            Dog d = order().get(0);
            last = d;
            if (minute + minutes > sunset) {
                minute = sunset;
                dark++;
                return false;
            }
            minute += minutes;
            counted++;
            int[] noted = losses.clone();
            if (d.state == 2) {
                System.arraycopy(d.lost, 0, noted, 0, d.anew);
            }
            d.lost = noted;
            d.state = 1;
            d.anew = 6;
            return true;
        }
    }

    private World world = new World();
    private String text = "";
    private final Deque<World> past = new ArrayDeque<>();
    private final World[] slots = new World[2];

    private boolean has(int i) {
        return i >= 0 && i < world.dogs.size();
    }

    private static boolean in(int number, int least, int most) {
        return least <= number && number <= most;
    }

    private void act() {
        past.addLast(world.copy());
        if (past.size() > 14) {
            past.removeFirst();
        }
    }

    int append(int c) {
        if (!in(c, 0, 255)) {
            return ARGUMENT;
        }
        if (text.length() == 70) {
            return STATE;
        }
        text += (char) c;
        return text.length();
    }

    int clearText() {
        int length = text.length();
        text = "";
        return length;
    }

    /** Whether some trial begins with the text: it is tried to complete it. */
    private static boolean begins(String start) {
        if (isTrial(start)) {
            return true;
        }
        for (int number = 0; number < 1000; number++) {
            String digits = String.valueOf(1000 + number).substring(1);
            if (isTrial(start + digits) || isTrial(start + digits.substring(1))
                    || isTrial(start + digits.substring(2))) {
                return true;
            }
        }
        int r = start.indexOf('r');
        if (r >= 0) {
            for (char phase = '0'; phase <= '5'; phase++) {
                if (start.indexOf(phase, r) < 0) {
                    return begins(start + phase);
                }
            }
        }
        return false;
    }

    private static boolean isTrial(String t) {
        if (!t.matches("T\\d\\d\\d(d[0-5]\\d\\d){0,12}(r[0-5]{6})?")) {
            return false;
        }
        int sunset = Integer.parseInt(t.substring(1, 4));
        boolean good = in(sunset, 60, 600);
        String draws = " 00";
        int at = 4;
        for (; at < t.length() && t.charAt(at) == 'd'; at += 4) {
            String draw = t.substring(at + 2, at + 4);
            good &= !draws.contains(" " + draw);
            draws += " " + draw;
        }
        if (at < t.length()) {
            char[] phases = t.substring(at + 1).toCharArray();
            Arrays.sort(phases);
            good &= new String(phases).equals("012345");
        }
        return good;
    }

    int errorPosition() {
        if (isTrial(text)) {
            return NONE;
        }
        int good = 0;
        while (good < text.length() && begins(text.substring(0, good + 1))) {
            good++;
        }
        return good;
    }

    int load() {
        if (!isTrial(text)) {
            return STATE;
        }
        world = new World();
        past.clear();
        slots[0] = null;
        slots[1] = null;
        world.sunset = Integer.parseInt(text.substring(1, 4));
        int at = 4;
        for (; at < text.length() && text.charAt(at) == 'd'; at += 4) {
            Dog d = new Dog();
            d.owner = text.charAt(at + 1) - '0';
            d.draw = Integer.parseInt(text.substring(at + 2, at + 4));
            world.dogs.add(d);
        }
        if (at < text.length()) {
            world.rank = text.substring(at + 1);
        }
        return world.dogs.size();
    }

    private int count(int... states) {
        int count = 0;
        for (Dog d : world.dogs) {
            for (int state : states) {
                count += d.state == state ? 1 : 0;
            }
        }
        return count;
    }

    int about(int what) {
        if (!in(what, 0, 16)) {
            return ARGUMENT;
        }
        if (what > 10) {
            return world.rank.charAt(what - 11) - '0';
        }
        int last = world.last == null ? NONE : world.dogs.indexOf(world.last);
        int[] all = {world.dogs.size(), count(0, 2), world.standing().size(), count(3), world.day, world.minute,
            world.sunset, last, world.counted, world.dark, world.interfered};
        return all[what];
    }

    int dog(int i, int what) {
        if (!has(i)) {
            return INDEX;
        }
        if (!in(what, 0, 7)) {
            return ARGUMENT;
        }
        Dog d = world.dogs.get(i);
        int place = world.order().indexOf(d);
        int[] all = {d.owner, d.draw, d.state, d.lost == null ? 0 : 1, d.score(), d.anew, world.place(d),
            place < 0 ? NONE : place};
        return all[what];
    }

    int lost(int i, int phase) {
        if (!has(i) || !in(phase, 0, 5)) {
            return INDEX;
        }
        Dog d = world.dogs.get(i);
        return d.lost == null ? NONE : d.loss(phase);
    }

    private int nth(List<Dog> row, int k) {
        return k < 0 ? ARGUMENT : k < row.size() ? world.dogs.indexOf(row.get(k)) : NONE;
    }

    int order(int k) {
        return nth(world.order(), k);
    }

    int standing(int k) {
        return nth(world.standing(), k);
    }

    int owner(int owner) {
        if (!in(owner, 0, 5)) {
            return ARGUMENT;
        }
        List<Integer> scores = new ArrayList<>(List.of(0, 0));
        for (Dog d : world.dogs) {
            if (d.owner == owner) {
                scores.add(d.score());
            }
        }
        scores.sort(Collections.reverseOrder());
        return scores.get(0) + scores.get(1);
    }

    private Dog holder(int draw) {
        for (Dog d : world.dogs) {
            if (d.draw == draw) {
                return d;
            }
        }
        return null;
    }

    int enter(int owner, int draw) {
        if (!in(owner, 0, 5) || !in(draw, 1, 99)) {
            return ARGUMENT;
        }
        if (world.dogs.size() == 12 || holder(draw) != null) {
            return STATE;
        }
        act();
        Dog d = new Dog();
        d.owner = owner;
        d.draw = draw;
        world.dogs.add(d);
        return world.dogs.size() - 1;
    }

    int withdraw(int i) {
        if (!has(i)) {
            return INDEX;
        }
        if (world.dogs.get(i).state == 3) {
            return STATE;
        }
        act();
        int state = world.dogs.get(i).state;
        world.dogs.get(i).state = 3;
        return state;
    }

    int run(long points, int minutes) {
        if (points < 0 || points > 999999999999L || !in(minutes, 1, 30)) {
            return ARGUMENT;
        }
        String digits = String.valueOf(1000000000000L + points).substring(1);
        int[] losses = new int[6];
        for (int phase = 0; phase < 6; phase++) {
            losses[phase] = Integer.parseInt(digits.substring(2 * phase, 2 * phase + 2));
            if (losses[phase] > WORTH[phase]) {
                return ARGUMENT;
            }
        }
        if (world.whyNot() != 0) {
            return STATE;
        }
        act();
        return world.run(losses, minutes) ? world.last.score() : NONE;
    }

    int interfere(int i, int phase) {
        if (!has(i) || !in(phase, 0, 5)) {
            return INDEX;
        }
        Dog d = world.dogs.get(i);
        if (d.state != 1) {
            return STATE;
        }
        act();
        return tell(world.dogs.get(i), phase);
    }

    private int tell(Dog d, int phase) {
        d.state = 2;
        d.anew = phase;
        world.interfered++;
        return d.score();
    }

    int nextDay(int sunset) {
        if (!in(sunset, 60, 600)) {
            return ARGUMENT;
        }
        act();
        world.minute = 0;
        world.sunset = sunset;
        return ++world.day;
    }

    private int[] places() {
        int[] all = new int[world.dogs.size()];
        for (int i = 0; i < all.length; i++) {
            all[i] = world.place(world.dogs.get(i));
        }
        return all;
    }

    int setRank(int rank) {
        if (!in(rank, 0, 999999)) {
            return ARGUMENT;
        }
        String digits = String.valueOf(1000000 + rank).substring(1);
        if (!isTrial("T060r" + digits)) {
            return ARGUMENT;
        }
        act();
        int[] before = places();
        world.rank = digits;
        int[] after = places();
        int others = 0;
        for (int i = 0; i < before.length; i++) {
            others += before[i] != after[i] ? 1 : 0;
        }
        return others;
    }

    int setDraw(int i, int draw) {
        if (!has(i)) {
            return INDEX;
        }
        if (!in(draw, 1, 99)) {
            return ARGUMENT;
        }
        if (holder(draw) != null && holder(draw) != world.dogs.get(i)) {
            return STATE;
        }
        act();
        int before = world.dogs.get(i).draw;
        world.dogs.get(i).draw = draw;
        return before;
    }

    int undo() {
        if (past.isEmpty()) {
            return STATE;
        }
        world = past.removeLast();
        return past.size();
    }

    int whyNot() {
        return world.whyNot();
    }

    int runsLeft(int minutes) {
        if (!in(minutes, 1, 30)) {
            return ARGUMENT;
        }
        int runs = 0;
        int minute = world.minute;
        while (runs < world.order().size() && minute + minutes <= world.sunset) {
            minute += minutes;
            runs++;
        }
        return runs;
    }

    /** The trial as it would be if the dog, which is to run, lost these points. */
    private World supposed(int i, int[] losses) {
        World w = world.copy();
        Dog d = w.dogs.get(i);
        for (Dog other : w.dogs) {
            if (other != d && (other.state == 0 || other.state == 2)) {
                other.state = 3;
            }
        }
        w.minute = 0;
        w.run(losses, 1);
        return w;
    }

    private boolean toRun(int i) {
        return world.dogs.get(i).state % 2 == 0;
    }

    int bestPlace(int i) {
        if (!has(i)) {
            return INDEX;
        }
        if (!toRun(i)) {
            return world.place(world.dogs.get(i));
        }
        World w = supposed(i, new int[6]);
        return w.place(w.dogs.get(i));
    }

    int mayLose(int i, int place) {
        if (!has(i)) {
            return INDEX;
        }
        if (!in(place, 1, 12)) {
            return ARGUMENT;
        }
        int most = NONE;
        int first = world.dogs.get(i).state == 2 ? world.dogs.get(i).anew : 0;
        int[] losses = new int[6];
        int points = 0;
        for (int phase = first; toRun(i) && phase < 6; phase++) {
            // each phase is filled up in turn, so that every sum of points comes once
            for (int loss = 0; loss <= WORTH[phase]; loss++) {
                losses[phase] = loss;
                World w = supposed(i, losses);
                int greater = 0;
                for (Dog d : w.dogs) {
                    greater += d.score() > w.dogs.get(i).score() ? 1 : 0;
                }
                if (greater <= place - 1) {
                    most = Math.max(most, points + loss);
                }
            }
            points += WORTH[phase];
        }
        return most;
    }

    int contenders() {
        int count = 0;
        for (int i = 0; i < world.dogs.size(); i++) {
            count += bestPlace(i) == 1 ? 1 : 0;
        }
        return count;
    }

    /** A model of its own with a copy of the state, on which the calls can be made. */
    private Model fork() {
        Model m = new Model();
        m.world = world.copy();
        return m;
    }

    int runScript(int n, long script) {
        if (!in(n, 1, 4) || script < 0 || String.valueOf(script).length() > 4 * n) {
            return ARGUMENT;
        }
        String zeros = "0".repeat(16) + script;
        String digits = zeros.substring(zeros.length() - 4 * n);
        Model m = fork();
        for (int k = 0; k < n; k++) {
            if (!m.command(digits.substring(4 * k, 4 * k + 4))) {
                return k;
            }
        }
        return NONE;
    }

    private boolean command(String c) {
        int low = Integer.parseInt(c.substring(2));
        int three = Integer.parseInt(c.substring(1));
        int x = c.charAt(1) - '0';
        switch (c.charAt(0)) {
            case '1': return run(x * 10101010101L, low) >= 0;
            case '2': return x == 0 && withdraw(low) >= 0;
            case '3': return interfere(low, x) >= 0;
            case '4': return nextDay(three) >= 0;
            case '5': return x == 0 && dog(low % 10, 7) == low / 10;
            case '6': return x > 0 && dog(low, 6) == x;
            case '7': return about(5) >= three;
            case '8': return x == 0 && about(1) == low;
            case '9': return three == whyNot();
            default: return false;
        }
    }

    int simulate(long seed, int m) {
        if (!in(m, 1, 99)) {
            return ARGUMENT;
        }
        Model f = fork();
        long x = seed;
        for (int k = 0; k < m; k++) {
            x = x * 6364136223846793005L + 1442695040888963407L;
            f.round((int) (x >>> 33));
        }
        int sum = 1000 * f.world.day;
        for (Dog d : f.world.dogs) {
            sum += d.score();
        }
        return sum;
    }

    private void round(int r) {
        if (whyNot() == 2) {
            nextDay(60 + r / 8 % 541);
        } else if (whyNot() == 0) {
            long points = 0;
            for (int w : WORTH) {
                points = 100 * points + r / 256 % (w + 1);
            }
            run(points, 1 + r / 8 % 30);
        } else if (!world.dogs.isEmpty()) {
            interfere(r / 8 % world.dogs.size(), r / 128 % 6);
        }
    }

    int save(int slot) {
        if (!in(slot, 0, 1)) {
            return INDEX;
        }
        slots[slot] = world.copy();
        return world.standing().size();
    }

    int restore(int slot) {
        if (!in(slot, 0, 1)) {
            return INDEX;
        }
        if (slots[slot] == null) {
            return STATE;
        }
        past.clear();
        world = slots[slot].copy();
        return world.standing().size();
    }

    /** In the form of ModelTest.numbersOf. */
    int numbersOf(int i) {
        if (!has(i)) {
            return INDEX;
        }
        int all = dog(i, 0);
        for (int what = 1; what <= 7; what++) {
            all = 31 * all + dog(i, what);
        }
        for (int phase = 0; phase < 6; phase++) {
            all = 31 * all + lost(i, phase);
        }
        return all;
    }

    /** In the form of Check.picture. */
    String picture() {
        StringBuilder all = new StringBuilder();
        for (int what = 0; what <= 16; what++) {
            all.append(about(what)).append(' ');
        }
        for (int i = 0; i < about(0); i++) {
            all.append("| ");
            for (int what = 0; what <= 7; what++) {
                all.append(dog(i, what)).append(' ');
            }
            for (int phase = 0; phase < 6; phase++) {
                all.append(lost(i, phase)).append(' ');
            }
        }
        return all.toString();
    }
}

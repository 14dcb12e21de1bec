import java.util.ArrayList;
import java.util.List;

/** The document told again in the plainest way: lists, whole copies, all orders by recursion, blow by blow. */
final class Model {
    private static final int[] LEAST = {100, 10, 0, 100, 0, 0};
    private static final int[] MOST = {10000, 100, 50, 500, 10000, 50};

    private World world = new World();
    private final List<World> past = new ArrayList<>();
    private String text = "";

    private static final class Pole {
        int x;
        int y;
        int length;
        int foot;
        int lifted;
        int pressed;
        boolean loose;
        final List<int[]> blows = new ArrayList<>();
        int setSum;

        Pole copy() {
            Pole copy = new Pole();
            copy.x = x;
            copy.y = y;
            copy.length = length;
            copy.foot = foot;
            copy.lifted = lifted;
            copy.pressed = pressed;
            copy.loose = loose;
            copy.blows.addAll(blows);
            copy.setSum = setSum;
            return copy;
        }

        List<int[]> kept() {
            return blows.subList(Math.max(0, blows.size() - 40), blows.size());
        }
    }

    private static final class World {
        final List<int[]> strata = new ArrayList<>(List.of(new int[] {10000, 50}));
        final int[] settings = {2000, 70, 3, 200, 3000, 4};
        final List<Pole> poles = new ArrayList<>();
        long energy;
        long work;
        long lifts;

        World copy() {
            World copy = new World();
            copy.strata.clear();
            copy.strata.addAll(strata);
            System.arraycopy(settings, 0, copy.settings, 0, 6);
            for (Pole pole : poles) {
                copy.poles.add(pole.copy());
            }
            copy.energy = energy;
            copy.work = work;
            copy.lifts = lifts;
            return copy;
        }

        int stratumAt(int depth) {
            int above = 0;
            for (int k = 0; k < strata.size(); k++) {
                if (above <= depth && depth < above + strata.get(k)[0]) {
                    return k;
                }
                above += strata.get(k)[0];
            }
            return -4;
        }

        int resistanceAt(int depth) {
            int k = stratumAt(depth);
            return k < 0 ? 2000 : strata.get(k)[1];
        }

        long energyOf(int fall) {
            return 1L * settings[0] * fall * settings[1] / 10000;
        }

        int setOf(Pole pole, int fall) {
            long set = energyOf(fall) / resistanceAt(pole.foot) - settings[2];
            set = Math.max(set, 0);
            set = Math.min(set, 500);
            return (int) Math.min(set, pole.length - pole.foot);
        }

        boolean near(Pole a, Pole b) {
            return a != b && Math.abs(a.x - b.x) <= settings[4] && Math.abs(a.y - b.y) <= settings[4];
        }

        int hit(Pole pole, int fall) {
            int set = setOf(pole, fall);
            int way = set + settings[2];
            long load = way == 0 ? 100000 : Math.min(100000, energyOf(fall) / way);
            energy += energyOf(fall);
            work += 1L * set * resistanceAt(pole.foot);
            pole.foot += set;
            pole.setSum += set;
            pole.blows.add(new int[] {set, (int) load});
            pole.loose = false;
            for (Pole other : poles) {
                if (near(pole, other) && other.foot > 0 && other.foot < pole.foot) {
                    int lift = Math.min(other.foot, set * settings[5] / 100);
                    other.foot -= lift;
                    other.lifted += lift;
                    lifts += lift;
                    if (lift >= 1) {
                        other.loose = true;
                    }
                }
            }
            return set;
        }

        boolean atEnd(Pole pole) {
            return pole.foot == pole.length;
        }
    }

    private static boolean in(int value, int least, int most) {
        return least <= value && value <= most;
    }

    private boolean isPole(int pile) {
        return in(pile, 0, world.poles.size() - 1);
    }

    private void change() {
        past.add(world.copy());
        if (past.size() > 4) {
            past.remove(0);
        }
    }

    long call(int method, int a, int b, int c, int d) {
        switch (method) {
            case 0: return stratum(a, b, c);
            case 1: return cut();
            case 2: return ground(a, b);
            case 3: return in(a, 0, 200000) ? world.stratumAt(a) : -1;
            case 4: return set(a, b);
            case 5: return count(a);
            case 6: return pile(a, b, c);
            case 7: return pileOf(a, b);
            case 8: return blow(a, b, c);
            case 9: return strike(a, b);
            case 10: return drive(a, b, c, d);
            case 11: return would(a, b);
            case 12: return fallFor(a, b);
            case 13: return blowsTo(a, b, c);
            case 14: return test(a, b);
            case 15: return undo();
            case 16: return isPole(a) ? runsOf(world.poles.get(a)).size() : -1;
            case 17: return run(a, b, c);
            case 18: return order(a, b, c);
            case 19: return leastLift(a, b);
            case 20: return type(a);
            case 21: return clearText();
            case 22: return fault(a);
            default: return carry();
        }
    }

    private int stratum(int stratum, int thickness, int resistance) {
        if (!in(stratum, 0, world.strata.size()) || !in(thickness, 100, 20000) || !in(resistance, 1, 500)) {
            return -1;
        }
        if (stratum == 6) {
            return -3;
        }
        change();
        int[] made = {thickness, resistance};
        if (stratum == world.strata.size()) {
            world.strata.add(made);
        } else {
            world.strata.set(stratum, made);
        }
        return world.strata.size();
    }

    private int cut() {
        if (world.strata.size() == 1) {
            return -2;
        }
        change();
        world.strata.remove(world.strata.size() - 1);
        return world.strata.size();
    }

    private int ground(int stratum, int what) {
        if (!in(stratum, 0, world.strata.size() - 1) || !in(what, 0, 3)) {
            return -1;
        }
        if (what < 2) {
            return world.strata.get(stratum)[what];
        }
        int found = 0;
        if (what == 2) {
            for (int[] above : world.strata.subList(0, stratum)) {
                found += above[0];
            }
            return found;
        }
        for (Pole pole : world.poles) {
            found += world.stratumAt(pole.foot) == stratum ? 1 : 0;
        }
        return found;
    }

    private int set(int what, int value) {
        if (!in(what, 0, 5) || !in(value, LEAST[what], MOST[what])) {
            return -1;
        }
        change();
        int previous = world.settings[what];
        world.settings[what] = value;
        return previous;
    }

    private long count(int what) {
        if (in(what, 10, 15)) {
            return world.settings[what - 10];
        }
        long blows = 0;
        long loose = 0;
        long depths = 0;
        long sets = 0;
        long pressed = 0;
        for (Pole pole : world.poles) {
            blows += pole.blows.size();
            loose += pole.loose ? 1 : 0;
            depths += pole.foot;
            sets += pole.setSum;
            pressed += pole.pressed;
        }
        switch (what) {
            case 0: return world.strata.size();
            case 1: return world.poles.size();
            case 2: return loose;
            case 3: return blows;
            case 4: return past.size();
            case 5: return text.length();
            case 6: return depths;
            case 20: return world.energy;
            case 21: return world.work;
            case 22: return sets;
            case 23: return world.lifts;
            case 24: return pressed;
            default: return -1;
        }
    }

    private int pile(int x, int y, int length) {
        if (!in(x, 0, 20000) || !in(y, 0, 20000) || !in(length, 1000, 50000)) {
            return -1;
        }
        for (Pole pole : world.poles) {
            if (pole.x == x && pole.y == y) {
                return -2;
            }
        }
        if (world.poles.size() == 10) {
            return -3;
        }
        change();
        Pole pole = new Pole();
        pole.x = x;
        pole.y = y;
        pole.length = length;
        world.poles.add(pole);
        return world.poles.size() - 1;
    }

    private int pileOf(int pile, int what) {
        if (!isPole(pile) || !in(what, 0, 12)) {
            return -1;
        }
        Pole pole = world.poles.get(pile);
        int near = 0;
        for (Pole other : world.poles) {
            near += world.near(pole, other) ? 1 : 0;
        }
        int load = -4;
        int allowed = -4;
        if (!pole.blows.isEmpty()) {
            load = pole.blows.get(pole.blows.size() - 1)[1];
            allowed = load * 100 / world.settings[3];
            allowed = pole.loose ? allowed / 2 : allowed;
        }
        int[] answers = {pole.x, pole.y, pole.length, pole.foot, pole.blows.size(), load, allowed, pole.loose ? 1 : 0,
            pole.setSum, pole.lifted, pole.pressed, near, pole.kept().size()};
        return answers[what];
    }

    private int blow(int pile, int index, int what) {
        if (!isPole(pile) || index < 0 || !in(what, 0, 1)) {
            return -1;
        }
        List<int[]> kept = world.poles.get(pile).kept();
        return index >= kept.size() ? -4 : kept.get(kept.size() - 1 - index)[what];
    }

    private int strike(int pile, int fall) {
        if (!isPole(pile) || !in(fall, 100, 3000)) {
            return -1;
        }
        if (world.atEnd(world.poles.get(pile))) {
            return -2;
        }
        change();
        return world.hit(world.poles.get(pile), fall);
    }

    private int drive(int pile, int fall, int set, int most) {
        if (!isPole(pile) || !in(fall, 100, 3000) || !in(set, 0, 500) || !in(most, 1, 100)) {
            return -1;
        }
        Pole pole = world.poles.get(pile);
        if (world.atEnd(pole)) {
            return -2;
        }
        change();
        int blows = 0;
        while (true) {
            int reached = world.hit(pole, fall);
            blows++;
            if (reached <= set || world.atEnd(pole) || blows == most) {
                return blows;
            }
        }
    }

    private int would(int pile, int fall) {
        if (!isPole(pile) || !in(fall, 100, 3000)) {
            return -1;
        }
        Pole pole = world.poles.get(pile);
        return world.atEnd(pole) ? -2 : world.setOf(pole, fall);
    }

    private int fallFor(int pile, int set) {
        if (!isPole(pile) || !in(set, 0, 500)) {
            return -1;
        }
        if (world.atEnd(world.poles.get(pile))) {
            return -2;
        }
        int fall = 100;
        while (fall <= 3000 && would(pile, fall) < set) {
            fall++;
        }
        return fall <= 3000 ? fall : -4;
    }

    private int blowsTo(int pile, int fall, int depth) {
        if (!isPole(pile) || !in(fall, 100, 3000) || !in(depth, 0, 50000)) {
            return -1;
        }
        Pole pole = world.poles.get(pile).copy();
        if (pole.length < depth) {
            return -4;
        }
        int blows = 0;
        while (pole.foot < depth) {
            int set = world.setOf(pole, fall);
            if (set == 0) {
                return -4;
            }
            pole.foot += set;
            blows++;
        }
        return blows;
    }

    private int test(int pile, int force) {
        if (!isPole(pile) || !in(force, 1, 100000)) {
            return -1;
        }
        change();
        Pole pole = world.poles.get(pile);
        int held = world.resistanceAt(pole.foot) * 10 + pole.foot / 100;
        if (force <= held) {
            return 0;
        }
        int foot = Math.min(pole.length, pole.foot + (force - held) / 10 + 1);
        int press = foot - pole.foot;
        pole.foot = foot;
        pole.pressed += press;
        pole.loose = false;
        return press;
    }

    private int undo() {
        if (past.isEmpty()) {
            return -2;
        }
        world = past.remove(past.size() - 1);
        return past.size();
    }

    private static List<List<int[]>> runsOf(Pole pole) {
        List<List<int[]>> runs = new ArrayList<>();
        for (int[] blow : pole.kept()) {
            if (blow[0] == 0) {
                continue;
            }
            List<int[]> last = runs.isEmpty() ? null : runs.get(runs.size() - 1);
            if (last == null || Math.abs(blow[0] - last.get(0)[0]) > 1) {
                last = new ArrayList<>();
                runs.add(last);
            }
            last.add(blow);
        }
        runs.removeIf(run -> run.size() < 3);
        return runs;
    }

    private int run(int pile, int run, int what) {
        if (!isPole(pile) || run < 0 || !in(what, 0, 3)) {
            return -1;
        }
        List<List<int[]>> runs = runsOf(world.poles.get(pile));
        if (run >= runs.size()) {
            return -4;
        }
        List<int[]> found = runs.get(run);
        int sum = found.stream().mapToInt(blow -> blow[0]).sum();
        return new int[] {found.get(0)[0], found.size(), found.get(0)[1], sum}[what];
    }

    private List<Integer> fresh() {
        List<Integer> fresh = new ArrayList<>();
        for (int i = 0; i < world.poles.size(); i++) {
            if (world.poles.get(i).blows.isEmpty()) {
                fresh.add(i);
            }
        }
        return fresh;
    }

    private long leastSum;
    private List<Integer> leastOrder;

    private void tryOrders(World reached, List<Integer> done, List<Integer> left, int fall, int blows) {
        if (left.isEmpty()) {
            long sum = reached.lifts - world.lifts;
            if (leastOrder == null || sum < leastSum) {
                leastSum = sum;
                leastOrder = done;
            }
            return;
        }
        for (Integer next : left) {
            World then = reached.copy();
            Pole pole = then.poles.get(next);
            for (int i = 0; i < blows && !then.atEnd(pole); i++) {
                then.hit(pole, fall);
            }
            List<Integer> order = new ArrayList<>(done);
            order.add(next);
            List<Integer> rest = new ArrayList<>(left);
            rest.remove(next);
            tryOrders(then, order, rest, fall, blows);
        }
    }

    private int order(int fall, int blows, int index) {
        if (!in(fall, 100, 3000) || !in(blows, 1, 20) || index < 0) {
            return -1;
        }
        if (fresh().size() > 5) {
            return -2;
        }
        leastOrder = null;
        tryOrders(world, List.of(), fresh(), fall, blows);
        return index < leastOrder.size() ? leastOrder.get(index) : -4;
    }

    private long leastLift(int fall, int blows) {
        int error = order(fall, blows, 0);
        return error == -1 || error == -2 ? error : leastSum;
    }

    private int type(int character) {
        if (!in(character, 32, 126)) {
            return -1;
        }
        if (text.length() == 80) {
            return -3;
        }
        text += (char) character;
        return text.length();
    }

    private int clearText() {
        int length = text.length();
        text = "";
        return length;
    }

    /** Position and reason of the fault, null if there is none; the parts that are possible are put into a list. */
    private int[] findFault(List<int[]> parts) {
        int start = 0;
        while (start < text.length()) {
            int end = text.indexOf(';', start);
            String part = end < 0 ? "" : text.substring(start, end);
            if (!part.matches("[0-9]:[0-9]{3,4}([*][0-9]{1,2})?")) {
                return new int[] {start, 1};
            }
            String[] numbers = part.split("[:*]");
            int pile = Integer.parseInt(numbers[0]);
            int fall = Integer.parseInt(numbers[1]);
            int times = numbers.length == 3 ? Integer.parseInt(numbers[2]) : 1;
            if (!isPole(pile)) {
                return new int[] {start, 2};
            }
            if (!in(fall, 100, 3000) || !in(times, 1, 40)) {
                return new int[] {start, 3};
            }
            parts.add(new int[] {pile, fall, times});
            start = end + 1;
        }
        return null;
    }

    private int fault(int what) {
        if (!in(what, 0, 1)) {
            return -1;
        }
        int[] fault = findFault(new ArrayList<>());
        return fault == null ? -4 : fault[what];
    }

    private int carry() {
        List<int[]> parts = new ArrayList<>();
        if (findFault(parts) != null) {
            return -2;
        }
        change();
        int made = 0;
        for (int[] part : parts) {
            Pole pole = world.poles.get(part[0]);
            for (int i = 0; i < part[2]; i++) {
                if (!world.atEnd(pole)) {
                    world.hit(pole, part[1]);
                    made++;
                }
            }
        }
        return made;
    }
}

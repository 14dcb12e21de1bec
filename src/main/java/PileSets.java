/**
 * A keeper of pile sets: piles driven blow by blow through strata, with lifts, load tests, runs of sets,
 * orders of driving and driving records. Each public method is one promise of the document, by its number.
 */
public final class PileSets {
    public static final int INVALID_ARGUMENT = -1;
    public static final int NOT_POSSIBLE = -2;
    public static final int LIMIT_REACHED = -3;
    public static final int NOT_FOUND = -4;

    private static final int MOST_STRATA = 6;
    private static final int LEAST_THICKNESS = 100;
    private static final int MOST_THICKNESS = 20000;
    private static final int MOST_RESISTANCE = 500;
    private static final int ROCK_RESISTANCE = 2000;
    private static final int FIRST_THICKNESS = 10000;
    private static final int FIRST_RESISTANCE = 50;
    private static final int MOST_DEPTH = 200000;

    private static final int MASS = 0;
    private static final int EFFICIENCY = 1;
    private static final int LOSS = 2;
    private static final int SAFETY = 3;
    private static final int REACH = 4;
    private static final int LIFT = 5;
    private static final int[] LEAST_SETTINGS = {100, 10, 0, 100, 0, 0};
    private static final int[] MOST_SETTINGS = {10000, 100, 50, 500, 10000, 50};
    private static final int[] FIRST_SETTINGS = {2000, 70, 3, 200, 3000, 4};

    private static final int MOST_PILES = 10;
    private static final int MOST_PLACE = 20000;
    private static final int LEAST_LENGTH = 1000;
    private static final int MOST_LENGTH = 50000;

    private static final int LEAST_FALL = 100;
    private static final int MOST_FALL = 3000;
    private static final int MOST_SET = 500;
    private static final int MOST_LOAD = 100000;
    private static final int MOST_FORCE = 100000;
    private static final int MOST_DRIVEN = 100;
    private static final int KEPT_BLOWS = 40;
    private static final int LEAST_RUN = 3;

    private static final int MOST_ORDERED = 5;
    private static final int MOST_ORDERS = 120;
    private static final int MOST_ORDER_BLOWS = 20;

    private static final int HISTORY_SIZE = 4;
    private static final int TEXT_SIZE = 80;
    private static final int FIRST_CHARACTER = 32;
    private static final int LAST_CHARACTER = 126;
    private static final int MOST_TIMES = 40;
    private static final int BAD_FORM = 1;
    private static final int BAD_PILE = 2;
    private static final int BAD_NUMBER = 3;

    private final State now = new State();
    private final History history = new History();
    private final BlowText text = new BlowText();
    private final RunFinder runFinder = new RunFinder();
    private final OrderFinder orderFinder = new OrderFinder();

    public PileSets() {
    }

    // ---- ground and settings

    public int stratum(int stratum, int thickness, int resistance) {
        if (!inRange(stratum, 0, now.ground.strata)
                || !inRange(thickness, LEAST_THICKNESS, MOST_THICKNESS)
                || !inRange(resistance, 1, MOST_RESISTANCE)) {
            return INVALID_ARGUMENT;
        }
        if (stratum >= MOST_STRATA) {
            return LIMIT_REACHED;
        }
        history.remember(now);
        now.ground.put(stratum, thickness, resistance);
        return now.ground.strata;
    }

    public int cut() {
        if (now.ground.strata <= 1) {
            return NOT_POSSIBLE;
        }
        history.remember(now);
        now.ground.removeLast();
        return now.ground.strata;
    }

    public int ground(int stratum, int what) {
        if (!inRange(stratum, 0, now.ground.strata - 1)) {
            return INVALID_ARGUMENT;
        }
        switch (what) {
            case 0:
                return now.ground.thicknessOf(stratum);
            case 1:
                return now.ground.resistanceOf(stratum);
            case 2:
                return now.ground.topOf(stratum);
            case 3:
                return now.feetIn(stratum);
            default:
                return INVALID_ARGUMENT;
        }
    }

    public int at(int depth) {
        if (!inRange(depth, 0, MOST_DEPTH)) {
            return INVALID_ARGUMENT;
        }
        int layer = now.ground.layerAt(depth);
        return layer < now.ground.strata ? layer : NOT_FOUND;
    }

    public int set(int what, int value) {
        if (!isSetting(what) || !inRange(value, LEAST_SETTINGS[what], MOST_SETTINGS[what])) {
            return INVALID_ARGUMENT;
        }
        history.remember(now);
        int previous = now.setting(what);
        now.changeSetting(what, value);
        return previous;
    }

    public long count(int what) {
        if (isSetting(what - 10)) {
            return now.setting(what - 10);
        }
        switch (what) {
            case 0:
                return now.ground.strata;
            case 1:
                return now.placed;
            case 2:
                return now.loosePiles();
            case 3:
                return now.blowSum;
            case 4:
                return history.states;
            case 5:
                return text.length;
            case 6:
                return now.footSum();
            case 20:
                return now.energySum;
            case 21:
                return now.workSum;
            case 22:
                return now.setSum;
            case 23:
                return now.liftSum;
            case 24:
                return now.pressSum;
            default:
                return INVALID_ARGUMENT;
        }
    }

    // ---- piles

    public int pile(int x, int y, int length) {
        if (!inRange(x, 0, MOST_PLACE) || !inRange(y, 0, MOST_PLACE)
                || !inRange(length, LEAST_LENGTH, MOST_LENGTH)) {
            return INVALID_ARGUMENT;
        }
        if (now.isTaken(x, y)) {
            return NOT_POSSIBLE;
        }
        if (now.placed >= MOST_PILES) {
            return LIMIT_REACHED;
        }
        history.remember(now);
        return now.place(x, y, length);
    }

    public int pileOf(int pile, int what) {
        Pile asked = now.pileAt(pile);
        if (asked == null) {
            return INVALID_ARGUMENT;
        }
        switch (what) {
            case 0:
                return asked.x;
            case 1:
                return asked.y;
            case 2:
                return asked.length;
            case 3:
                return asked.foot;
            case 4:
                return asked.blows;
            case 5:
                return asked.blows > 0 ? asked.load : NOT_FOUND;
            case 6:
                return asked.blows > 0 ? now.allowedLoad(asked) : NOT_FOUND;
            case 7:
                return asked.loose ? 1 : 0;
            case 8:
                return asked.setSum;
            case 9:
                return asked.liftSum;
            case 10:
                return asked.pressSum;
            case 11:
                return now.pilesNear(asked);
            case 12:
                return asked.kept;
            default:
                return INVALID_ARGUMENT;
        }
    }

    public int blow(int pile, int index, int what) {
        Pile asked = now.pileAt(pile);
        if (asked == null || index < 0 || !inRange(what, 0, 1)) {
            return INVALID_ARGUMENT;
        }
        if (index >= asked.kept) {
            return NOT_FOUND;
        }
        int place = asked.kept - 1 - index;
        return what == 0 ? asked.keptSet(place) : asked.keptLoad(place);
    }

    public int strike(int pile, int fall) {
        Pile struck = now.pileAt(pile);
        if (struck == null || !isFall(fall)) {
            return INVALID_ARGUMENT;
        }
        if (struck.left() <= 0) {
            return NOT_POSSIBLE;
        }
        history.remember(now);
        return now.hit(struck, fall);
    }

    public int drive(int pile, int fall, int set, int most) {
        Pile driven = now.pileAt(pile);
        if (driven == null || !isFall(fall) || !inRange(set, 0, MOST_SET) || !inRange(most, 1, MOST_DRIVEN)) {
            return INVALID_ARGUMENT;
        }
        if (driven.left() <= 0) {
            return NOT_POSSIBLE;
        }
        history.remember(now);
        int blows = 0;
        boolean goesOn = true;
        while (goesOn && blows < most) {
            int reached = now.hit(driven, fall);
            blows++;
            goesOn = reached > set && driven.left() > 0;
        }
        return blows;
    }

    public int would(int pile, int fall) {
        Pile asked = now.pileAt(pile);
        if (asked == null || !isFall(fall)) {
            return INVALID_ARGUMENT;
        }
        if (asked.left() <= 0) {
            return NOT_POSSIBLE;
        }
        return now.setOf(now.energyOf(fall), asked.foot, asked.length);
    }

    public int fallFor(int pile, int set) {
        Pile asked = now.pileAt(pile);
        if (asked == null || !inRange(set, 0, MOST_SET)) {
            return INVALID_ARGUMENT;
        }
        if (asked.left() <= 0) {
            return NOT_POSSIBLE;
        }
        for (int fall = LEAST_FALL; fall <= MOST_FALL; fall++) {
            if (now.setOf(now.energyOf(fall), asked.foot, asked.length) >= set) {
                return fall;
            }
        }
        return NOT_FOUND;
    }

    public int blowsTo(int pile, int fall, int depth) {
        Pile asked = now.pileAt(pile);
        if (asked == null || !isFall(fall) || !inRange(depth, 0, MOST_LENGTH)) {
            return INVALID_ARGUMENT;
        }
        if (asked.length < depth) {
            return NOT_FOUND;
        }
        return now.blowsDown(asked.foot, depth, now.energyOf(fall));
    }

    public int test(int pile, int force) {
        Pile tested = now.pileAt(pile);
        if (tested == null || !inRange(force, 1, MOST_FORCE)) {
            return INVALID_ARGUMENT;
        }
        history.remember(now);
        return now.loadWith(tested, force);
    }

    public int undo() {
        if (history.states <= 0) {
            return NOT_POSSIBLE;
        }
        history.restore(now);
        return history.states;
    }

    // ---- runs, orders

    public int runs(int pile) {
        Pile asked = now.pileAt(pile);
        if (asked == null) {
            return INVALID_ARGUMENT;
        }
        runFinder.read(asked, -1);
        return runFinder.found;
    }

    public int run(int pile, int run, int what) {
        Pile asked = now.pileAt(pile);
        if (asked == null || run < 0 || !inRange(what, 0, 3)) {
            return INVALID_ARGUMENT;
        }
        runFinder.read(asked, run);
        return run < runFinder.found ? runFinder.answerOf(what) : NOT_FOUND;
    }

    public int order(int fall, int blows, int index) {
        if (!isFall(fall) || !inRange(blows, 1, MOST_ORDER_BLOWS) || index < 0) {
            return INVALID_ARGUMENT;
        }
        if (now.pilesWithoutBlows() > MOST_ORDERED) {
            return NOT_POSSIBLE;
        }
        orderFinder.search(now, fall, blows);
        return orderFinder.bestAt(index);
    }

    public int leastLift(int fall, int blows) {
        if (!isFall(fall) || !inRange(blows, 1, MOST_ORDER_BLOWS)) {
            return INVALID_ARGUMENT;
        }
        if (now.pilesWithoutBlows() > MOST_ORDERED) {
            return NOT_POSSIBLE;
        }
        orderFinder.search(now, fall, blows);
        return orderFinder.leastSum;
    }

    // ---- records

    public int type(int character) {
        if (!inRange(character, FIRST_CHARACTER, LAST_CHARACTER)) {
            return INVALID_ARGUMENT;
        }
        if (text.length >= TEXT_SIZE) {
            return LIMIT_REACHED;
        }
        text.append((char) character);
        return text.length;
    }

    public int clearText() {
        int length = text.length;
        text.empty();
        return length;
    }

    public int fault(int what) {
        if (!inRange(what, 0, 1)) {
            return INVALID_ARGUMENT;
        }
        int reason = text.findFault(now.placed);
        if (reason == 0) {
            return NOT_FOUND;
        }
        return what == 0 ? text.faultStart : reason;
    }

    public int carry() {
        if (text.findFault(now.placed) != 0) {
            return NOT_POSSIBLE;
        }
        history.remember(now);
        int made = 0;
        int start = 0;
        for (int part = 0; part < TEXT_SIZE && text.readPart(start); part++) {
            made += now.hitSeveral(text.pileNumber, text.fall, text.times);
            start = text.partEnd;
        }
        return made;
    }

    private static boolean inRange(int value, int least, int most) {
        return value >= least && value <= most;
    }

    private static boolean isFall(int fall) {
        return inRange(fall, LEAST_FALL, MOST_FALL);
    }

    private static boolean isSetting(int what) {
        return what >= 0 && what < FIRST_SETTINGS.length;
    }

    /** How far a blow lifts a foot: only one that is in the ground, and less deep than the struck one. */
    private static int liftOf(int foot, int struckFoot, int lift) {
        return foot > 0 && foot < struckFoot ? Math.min(foot, lift) : 0;
    }

    /** The strata; the layer below the last one is the rock, numbered as the number of strata. */
    private static final class Ground {
        private final int[] thickness = new int[MOST_STRATA];
        private final int[] resistance = new int[MOST_STRATA];
        private int strata;

        private Ground() {
            put(0, FIRST_THICKNESS, FIRST_RESISTANCE);
        }

        private void put(int stratum, int thick, int resisting) {
            if (stratum < 0 || stratum >= thickness.length || stratum >= resistance.length) {
                return;
            }
            thickness[stratum] = thick;
            resistance[stratum] = resisting;
            strata = Math.max(strata, stratum + 1);
        }

        private void removeLast() {
            strata--;
        }

        private int thicknessOf(int stratum) {
            return stratum >= 0 && stratum < thickness.length ? thickness[stratum] : 0;
        }

        private int resistanceOf(int layer) {
            return layer >= 0 && layer < strata && layer < resistance.length ? resistance[layer] : ROCK_RESISTANCE;
        }

        private int topOf(int layer) {
            int top = 0;
            for (int i = 0; i < layer && i < thickness.length; i++) {
                top += thickness[i];
            }
            return top;
        }

        private int layerAt(int depth) {
            int bottom = 0;
            for (int i = 0; i < strata && i < thickness.length; i++) {
                bottom += thickness[i];
                if (depth < bottom) {
                    return i;
                }
            }
            return strata;
        }

        private int resistanceAt(int depth) {
            return resistanceOf(layerAt(depth));
        }

        private void copyFrom(Ground other) {
            System.arraycopy(other.thickness, 0, thickness, 0, MOST_STRATA);
            System.arraycopy(other.resistance, 0, resistance, 0, MOST_STRATA);
            strata = other.strata;
        }
    }

    /** A pile with its latest blows, the earliest kept one first. */
    private static final class Pile {
        private final int[] sets = new int[KEPT_BLOWS];
        private final int[] loads = new int[KEPT_BLOWS];
        private int kept;
        private int x;
        private int y;
        private int length;
        private int foot;
        private int blows;
        private int load;
        private boolean loose;
        private int setSum;
        private int liftSum;
        private int pressSum;

        private Pile() {
        }

        private void startAt(int newX, int newY, int newLength) {
            x = newX;
            y = newY;
            length = newLength;
            kept = 0;
            foot = 0;
            blows = 0;
            load = 0;
            loose = false;
            setSum = 0;
            liftSum = 0;
            pressSum = 0;
        }

        private int left() {
            return length - foot;
        }

        private void takeBlow(int blowSet, int blowLoad) {
            foot += blowSet;
            setSum += blowSet;
            blows++;
            load = blowLoad;
            loose = false;
            keep(blowSet, blowLoad);
        }

        private void keep(int blowSet, int blowLoad) {
            if (kept >= KEPT_BLOWS) {
                System.arraycopy(sets, 1, sets, 0, KEPT_BLOWS - 1);
                System.arraycopy(loads, 1, loads, 0, KEPT_BLOWS - 1);
                kept = KEPT_BLOWS - 1;
            }
            if (kept >= 0 && kept < sets.length && kept < loads.length) {
                sets[kept] = blowSet;
                loads[kept] = blowLoad;
                kept++;
            }
        }

        private void takeLift(int lift) {
            if (lift >= 1) {
                foot -= lift;
                liftSum += lift;
                loose = true;
            }
        }

        private void takePress(int press) {
            foot += press;
            pressSum += press;
            loose = false;
        }

        private int keptSet(int place) {
            return place >= 0 && place < sets.length ? sets[place] : 0;
        }

        private int keptLoad(int place) {
            return place >= 0 && place < loads.length ? loads[place] : 0;
        }

        private void copyFrom(Pile other) {
            System.arraycopy(other.sets, 0, sets, 0, KEPT_BLOWS);
            System.arraycopy(other.loads, 0, loads, 0, KEPT_BLOWS);
            kept = other.kept;
            x = other.x;
            y = other.y;
            length = other.length;
            foot = other.foot;
            blows = other.blows;
            load = other.load;
            loose = other.loose;
            setSum = other.setSum;
            liftSum = other.liftSum;
            pressSum = other.pressSum;
        }
    }

    /** All that a change can change, and so all that the history records. */
    private static final class State {
        private final Ground ground = new Ground();
        private final int[] settings = FIRST_SETTINGS.clone();
        private final Pile[] piles = new Pile[MOST_PILES];
        private int placed;
        private long blowSum;
        private long energySum;
        private long workSum;
        private long setSum;
        private long liftSum;
        private long pressSum;

        private State() {
            for (int i = 0; i < piles.length; i++) {
                piles[i] = new Pile();
            }
        }

        private int setting(int what) {
            return what >= 0 && what < settings.length ? settings[what] : 0;
        }

        private void changeSetting(int what, int value) {
            if (what >= 0 && what < settings.length) {
                settings[what] = value;
            }
        }

        /** The pile with a number, null if there is none. */
        private Pile pileAt(int number) {
            return number >= 0 && number < placed && number < piles.length ? piles[number] : null;
        }

        private int place(int x, int y, int length) {
            int number = placed;
            placed++;
            Pile pile = pileAt(number);
            if (pile != null) {
                pile.startAt(x, y, length);
            }
            return number;
        }

        private boolean isTaken(int x, int y) {
            for (int i = 0; i < placed; i++) {
                Pile pile = pileAt(i);
                if (pile != null && pile.x == x && pile.y == y) {
                    return true;
                }
            }
            return false;
        }

        private int feetIn(int layer) {
            int feet = 0;
            for (int i = 0; i < placed; i++) {
                Pile pile = pileAt(i);
                if (pile != null && ground.layerAt(pile.foot) == layer) {
                    feet++;
                }
            }
            return feet;
        }

        private int loosePiles() {
            int loose = 0;
            for (int i = 0; i < placed; i++) {
                Pile pile = pileAt(i);
                if (pile != null && pile.loose) {
                    loose++;
                }
            }
            return loose;
        }

        private int pilesWithoutBlows() {
            int fresh = 0;
            for (int i = 0; i < placed; i++) {
                Pile pile = pileAt(i);
                if (pile != null && pile.blows == 0) {
                    fresh++;
                }
            }
            return fresh;
        }

        private long footSum() {
            long sum = 0;
            for (int i = 0; i < placed; i++) {
                Pile pile = pileAt(i);
                if (pile != null) {
                    sum += pile.foot;
                }
            }
            return sum;
        }

        private boolean areNear(Pile one, Pile other) {
            int reach = setting(REACH);
            return one != other && Math.abs(one.x - other.x) <= reach && Math.abs(one.y - other.y) <= reach;
        }

        private int pilesNear(Pile asked) {
            int near = 0;
            for (int i = 0; i < placed; i++) {
                Pile pile = pileAt(i);
                if (pile != null && areNear(asked, pile)) {
                    near++;
                }
            }
            return near;
        }

        private int energyOf(int fall) {
            // Mass, fall and efficiency together do not fit into an int.
            return (int) ((long) setting(MASS) * fall * setting(EFFICIENCY) / 10000);
        }

        /** The set of a blow on a pile that has no end. */
        private int freeSet(int energy, int resistance) {
            if (resistance <= 0) {
                return 0;
            }
            return Math.min(MOST_SET, Math.max(0, energy / resistance - setting(LOSS)));
        }

        private int setOf(int energy, int foot, int length) {
            return Math.min(length - foot, freeSet(energy, ground.resistanceAt(foot)));
        }

        private int loadOf(int energy, int set) {
            int way = set + setting(LOSS);
            return way <= 0 ? MOST_LOAD : Math.min(MOST_LOAD, energy / way);
        }

        private int allowedLoad(Pile pile) {
            int safety = setting(SAFETY);
            if (safety <= 0) {
                return 0;
            }
            int allowed = pile.load * 100 / safety;
            return pile.loose ? allowed / 2 : allowed;
        }

        private int liftBy(int set) {
            return set * setting(LIFT) / 100;
        }

        private int hit(Pile struck, int fall) {
            int energy = energyOf(fall);
            // The resistance ahead of the blow counts for the whole blow, also for its work.
            int resistance = ground.resistanceAt(struck.foot);
            int set = setOf(energy, struck.foot, struck.length);
            struck.takeBlow(set, loadOf(energy, set));
            blowSum++;
            energySum += energy;
            workSum += (long) set * resistance;
            setSum += set;
            liftOthers(struck, liftBy(set));
            return set;
        }

        private void liftOthers(Pile struck, int lift) {
            for (int i = 0; i < placed; i++) {
                Pile other = pileAt(i);
                if (other != null && areNear(struck, other)) {
                    int lifted = liftOf(other.foot, struck.foot, lift);
                    other.takeLift(lifted);
                    liftSum += lifted;
                }
            }
        }

        /** Blows alike on a pile as long as it can be struck; returns how many there were. */
        private int hitSeveral(int number, int fall, int times) {
            Pile struck = pileAt(number);
            if (struck == null) {
                return 0;
            }
            int made = 0;
            while (made < times && struck.left() > 0) {
                hit(struck, fall);
                made++;
            }
            return made;
        }

        /**
         * Counts blows layer by layer, for all blows that begin in a layer have the same set. That the pile
         * ends plays no part: only a blow that comes to the depth anyway could be cut short by it.
         */
        private int blowsDown(int from, int depth, int energy) {
            int foot = from;
            int blows = 0;
            for (int layer = ground.layerAt(from); layer <= ground.strata && foot < depth; layer++) {
                int end = layer < ground.strata ? Math.min(depth, ground.topOf(layer + 1)) : depth;
                if (foot < end) {
                    int set = freeSet(energy, ground.resistanceOf(layer));
                    if (set <= 0) {
                        return NOT_FOUND;
                    }
                    int more = (end - foot + set - 1) / set;
                    blows += more;
                    foot += more * set;
                }
            }
            return blows;
        }

        private int loadWith(Pile tested, int force) {
            int held = ground.resistanceAt(tested.foot) * 10 + tested.foot / 100;
            if (force <= held) {
                return 0;
            }
            int press = Math.min(tested.left(), (force - held) / 10 + 1);
            tested.takePress(press);
            pressSum += press;
            return press;
        }

        private void copyFrom(State other) {
            ground.copyFrom(other.ground);
            System.arraycopy(other.settings, 0, settings, 0, FIRST_SETTINGS.length);
            placed = other.placed;
            for (int i = 0; i < placed; i++) {
                Pile pile = pileAt(i);
                Pile source = other.pileAt(i);
                if (pile != null && source != null) {
                    pile.copyFrom(source);
                }
            }
            blowSum = other.blowSum;
            energySum = other.energySum;
            workSum = other.workSum;
            setSum = other.setSum;
            liftSum = other.liftSum;
            pressSum = other.pressSum;
        }
    }

    /** The states before the latest changes, in rooms that are made once and used again. */
    private static final class History {
        private final State[] rooms = new State[HISTORY_SIZE];
        private int states;
        private int next;

        private History() {
            for (int i = 0; i < rooms.length; i++) {
                rooms[i] = new State();
            }
        }

        /** The rooms go round, so that the oldest state is the one that is written over. */
        private void remember(State now) {
            State room = roomAt(next);
            if (room != null) {
                room.copyFrom(now);
                next = (next + 1) % HISTORY_SIZE;
                states = Math.min(HISTORY_SIZE, states + 1);
            }
        }

        private void restore(State now) {
            int latest = (next + HISTORY_SIZE - 1) % HISTORY_SIZE;
            State room = roomAt(latest);
            if (room != null && states > 0) {
                now.copyFrom(room);
                next = latest;
                states--;
            }
        }

        private State roomAt(int place) {
            return place >= 0 && place < rooms.length ? rooms[place] : null;
        }
    }

    /** Cuts the kept sets of a pile into runs, and holds the properties of one of them. */
    private static final class RunFinder {
        private final int[] answers = new int[4];
        private int wanted;
        private int found;
        private int firstSet;
        private int size;
        private int firstLoad;
        private int sum;

        private RunFinder() {
        }

        private void read(Pile pile, int wantedRun) {
            wanted = wantedRun;
            found = 0;
            size = 0;
            for (int i = 0; i < pile.kept; i++) {
                int set = pile.keptSet(i);
                if (set > 0) {
                    readSet(set, pile.keptLoad(i));
                }
            }
            closeRun();
        }

        private void readSet(int set, int load) {
            if (size > 0 && Math.abs(set - firstSet) > 1) {
                closeRun();
            }
            if (size == 0) {
                firstSet = set;
                firstLoad = load;
                sum = 0;
            }
            size++;
            sum += set;
        }

        private void closeRun() {
            if (size >= LEAST_RUN) {
                if (found == wanted) {
                    answers[0] = firstSet;
                    answers[1] = size;
                    answers[2] = firstLoad;
                    answers[3] = sum;
                }
                found++;
            }
            size = 0;
        }

        private int answerOf(int what) {
            return what >= 0 && what < answers.length ? answers[what] : 0;
        }
    }

    /** Tries the orders of the piles without blows, on feet of its own, so that nothing changes. */
    private static final class OrderFinder {
        private final int[] feet = new int[MOST_PILES];
        private final int[] near = new int[MOST_PILES];
        private int nearOnes;
        private final int[] tried = new int[MOST_ORDERED];
        private final int[] best = new int[MOST_ORDERED];
        private int size;
        private int leastSum;

        private OrderFinder() {
        }

        private void search(State state, int fall, int blows) {
            collect(state);
            int energy = state.energyOf(fall);
            leastSum = Integer.MAX_VALUE;
            boolean more = true;
            for (int orders = 0; orders < MOST_ORDERS && more; orders++) {
                int sum = liftsOfTried(state, energy, blows);
                if (sum < leastSum) {
                    leastSum = sum;
                    System.arraycopy(tried, 0, best, 0, MOST_ORDERED);
                }
                // No order has less than no lift, and of those without lift the first one counts.
                more = leastSum > 0 && nextOrder();
            }
        }

        private int bestAt(int index) {
            return index >= 0 && index < size && index < best.length ? best[index] : NOT_FOUND;
        }

        private void collect(State state) {
            size = 0;
            for (int i = 0; i < state.placed; i++) {
                Pile pile = state.pileAt(i);
                if (pile != null && pile.blows == 0 && size < tried.length) {
                    tried[size] = i;
                    size++;
                }
            }
        }

        /** The sum of lifts of the order tried, or something not below the least one so far. */
        private int liftsOfTried(State state, int energy, int blows) {
            for (int i = 0; i < state.placed && i < feet.length; i++) {
                Pile pile = state.pileAt(i);
                feet[i] = pile == null ? 0 : pile.foot;
            }
            int sum = 0;
            for (int i = 0; i < size && sum < leastSum; i++) {
                sum += liftsOfPile(state, triedAt(i), energy, blows);
            }
            return sum;
        }

        private int liftsOfPile(State state, int number, int energy, int blows) {
            Pile struck = state.pileAt(number);
            if (struck == null || number < 0 || number >= feet.length) {
                return 0;
            }
            findNear(state, struck);
            int sum = 0;
            for (int blow = 0; blow < blows && feet[number] < struck.length; blow++) {
                int set = state.setOf(energy, feet[number], struck.length);
                feet[number] += set;
                sum += liftNear(feet[number], state.liftBy(set));
            }
            return sum;
        }

        private void findNear(State state, Pile struck) {
            nearOnes = 0;
            for (int i = 0; i < state.placed && nearOnes < near.length; i++) {
                Pile other = state.pileAt(i);
                if (other != null && state.areNear(struck, other)) {
                    near[nearOnes] = i;
                    nearOnes++;
                }
            }
        }

        private int liftNear(int struckFoot, int lift) {
            int sum = 0;
            for (int i = 0; i < nearOnes && i < near.length && lift > 0; i++) {
                int other = near[i];
                if (other >= 0 && other < feet.length) {
                    int lifted = liftOf(feet[other], struckFoot, lift);
                    feet[other] -= lifted;
                    sum += lifted;
                }
            }
            return sum;
        }

        /** Goes on to the next order by the numbers of the piles; false behind the last one. */
        private boolean nextOrder() {
            int turn = size - 2;
            while (turn >= 0 && triedAt(turn) > triedAt(turn + 1)) {
                turn--;
            }
            if (turn < 0) {
                return false;
            }
            int other = size - 1;
            while (other > turn && triedAt(other) < triedAt(turn)) {
                other--;
            }
            swap(turn, other);
            int low = turn + 1;
            int high = size - 1;
            while (low < high) {
                swap(low, high);
                low++;
                high--;
            }
            return true;
        }

        private int triedAt(int place) {
            return place >= 0 && place < size && place < tried.length ? tried[place] : -1;
        }

        private void swap(int one, int other) {
            if (one >= 0 && one < tried.length && other >= 0 && other < tried.length) {
                int held = tried[one];
                tried[one] = tried[other];
                tried[other] = held;
            }
        }
    }

    /** The text of blows, and the part of it that was read last. */
    private static final class BlowText {
        private final char[] characters = new char[TEXT_SIZE];
        private int length;
        private int pileNumber;
        private int fall;
        private int times;
        private int partEnd;
        private int faultStart;

        private BlowText() {
        }

        private void append(char character) {
            if (length >= 0 && length < characters.length) {
                characters[length] = character;
                length++;
            }
        }

        private void empty() {
            length = 0;
        }

        /** The reason of the first fault, whose position is held then; 0 if there is none. */
        private int findFault(int piles) {
            int start = 0;
            for (int part = 0; part < TEXT_SIZE && start < length; part++) {
                int reason = reasonOf(start, piles);
                if (reason != 0) {
                    faultStart = start;
                    return reason;
                }
                start = partEnd;
            }
            return 0;
        }

        private int reasonOf(int start, int piles) {
            if (!readPart(start)) {
                return BAD_FORM;
            }
            if (pileNumber >= piles) {
                return BAD_PILE;
            }
            return isFall(fall) && inRange(times, 1, MOST_TIMES) ? 0 : BAD_NUMBER;
        }

        /** Reads the part from a position on; false if it is not of the form of a part. */
        private boolean readPart(int start) {
            if (digitsFrom(start) != 1 || characterAt(start + 1) != ':') {
                return false;
            }
            pileNumber = numberIn(start, 1);
            int position = start + 2;
            int digits = digitsFrom(position);
            if (!inRange(digits, 3, 4)) {
                return false;
            }
            fall = numberIn(position, digits);
            position += digits;
            times = 1;
            if (characterAt(position) == '*') {
                position++;
                digits = digitsFrom(position);
                if (!inRange(digits, 1, 2)) {
                    return false;
                }
                times = numberIn(position, digits);
                position += digits;
            }
            partEnd = position + 1;
            return characterAt(position) == ';';
        }

        /** What stands at a position; behind the text a sign that no text has. */
        private char characterAt(int position) {
            return position >= 0 && position < length && position < characters.length ? characters[position] : 0;
        }

        private boolean isDigit(char character) {
            return character >= '0' && character <= '9';
        }

        private int digitsFrom(int position) {
            int digits = 0;
            while (digits < TEXT_SIZE && isDigit(characterAt(position + digits))) {
                digits++;
            }
            return digits;
        }

        private int numberIn(int position, int digits) {
            int number = 0;
            for (int i = 0; i < digits; i++) {
                number = number * 10 + characterAt(position + i) - '0';
            }
            return number;
        }
    }
}

import java.util.ArrayList;
import java.util.List;

/** What can be asked of an object, so that two states can be compared; some 160 calls, none of them a change. */
final class Look {
    private static final int[] COUNTS = {0, 1, 2, 3, 5, 6, 10, 11, 12, 13, 14, 15, 20, 21, 22, 23, 24};

    private Look() {
    }

    /** Everything but the history, of which only undo tells more than how many states it has. */
    static long[] at(PileSets x) {
        List<Long> seen = new ArrayList<>();
        for (int what : COUNTS) {
            seen.add(x.count(what));
        }
        for (int stratum = 0; stratum < x.count(0); stratum++) {
            seen.add((long) x.ground(stratum, 0));
            seen.add((long) x.ground(stratum, 1));
            seen.add((long) x.ground(stratum, 3));
        }
        for (int pile = 0; pile < x.count(1); pile++) {
            seePile(x, pile, seen);
        }
        seen.add((long) x.fault(0));
        seen.add((long) x.fault(1));
        seen.add((long) x.leastLift(700, 3));
        return seen.stream().mapToLong(Long::longValue).toArray();
    }

    private static void seePile(PileSets x, int pile, List<Long> seen) {
        // Of many piles the first ones are looked at closely.
        int last = pile < 3 ? 12 : 3;
        for (int what = pile < 3 ? 0 : 2; what <= last; what++) {
            seen.add((long) x.pileOf(pile, what));
        }
        if (pile < 3) {
            for (int index = 0; index < 3; index++) {
                seen.add((long) x.blow(pile, index, 0));
                seen.add((long) x.blow(pile, index, 1));
            }
            seen.add((long) x.blow(pile, 39, 0));
            seen.add((long) x.runs(pile));
            seen.add((long) x.run(pile, 0, 3));
        }
    }

    static void dueAlike(String name, long[] seen, long[] due) {
        Due.due(name + ": what there is to look at", seen.length, due.length);
        for (int i = 0; i < due.length && i < seen.length; i++) {
            Due.due(name + ": look " + i, seen[i], due[i]);
        }
    }
}

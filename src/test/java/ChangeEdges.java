/** The edges in what the document says of changes and errors: promise 17, and what all calls share. */
final class ChangeEdges {
    private static final int FAR = Integer.MAX_VALUE;
    private static final int NEAR_END = Integer.MIN_VALUE;
    private static final int CHANGES = 8;
    private static final int REFUSED = 54;

    private ChangeEdges() {
    }

    static void all() {
        constants();
        whichAreChanges();
        whichAreNone();
        changesWithoutADifference();
        atMostFour();
        dropped();
        roundAndRound();
        allButTheText();
        undos();
        priorities();
        refusedInAFullState();
        refusedInAnEmptyState();
        noSuchPile();
        noSuchStratum();
    }

    private static void constants() {
        Words.of("The constants: `INVALID_ARGUMENT = -1`: An argument is out of its range, "
            + "or there is no such stratum or pile.");
        Due.due("INVALID_ARGUMENT", PileSets.INVALID_ARGUMENT, -1);
        Words.of("`NOT_POSSIBLE = -2`: The call is not possible in the present state.");
        Due.due("NOT_POSSIBLE", PileSets.NOT_POSSIBLE, -2);
        Words.of("`LIMIT_REACHED = -3`: A fixed limit has been reached.");
        Due.due("LIMIT_REACHED", PileSets.LIMIT_REACHED, -3);
        Words.of("`NOT_FOUND = -4`: There is no such value.");
        Due.due("NOT_FOUND", PileSets.NOT_FOUND, -4);
    }

    /** Two piles, two strata, a text without a fault, and two states in the history. */
    private static PileSets scene() {
        PileSets x = Made.with(5000, 5000);
        x.stratum(1, 3000, 70);
        x.strike(0, 1000);
        x.strike(1, 1500);
        Made.write(x, "0:2900;1:2800*2;");
        x.undo();
        x.undo();
        x.strike(0, 1200);
        x.undo();
        return x;
    }

    private static int change(PileSets x, int which) {
        switch (which) {
            case 0: return x.stratum(0, 500, 60);
            case 1: return x.cut();
            case 2: return x.set(0, 3000);
            case 3: return x.pile(9, 9, 1000);
            case 4: return x.strike(0, 2900);
            case 5: return x.drive(1, 2900, 0, 5);
            case 6: return x.test(0, 90000);
            default: return x.carry();
        }
    }

    private static void whichAreChanges() {
        Words.of("The changes are the calls of stratum, cut, set, pile, strike, drive, test and carry that return no error.");
        for (int which = 0; which < CHANGES; which++) {
            PileSets x = scene();
            long states = x.count(4);
            Due.dueTrue("change " + which + " is made", change(x, which) >= 0);
            Due.due("change " + which + " is recorded once", x.count(4), states + 1);
        }
    }

    private static void whichAreNone() {
        Words.of("The changes are the calls of stratum, cut, set, pile, strike, drive, test and carry");
        PileSets x = scene();
        long states = x.count(4);
        x.ground(0, 0);
        x.at(0);
        x.count(0);
        x.pileOf(0, 0);
        x.blow(0, 0, 0);
        x.would(0, 1000);
        x.fallFor(0, 100);
        x.blowsTo(0, 1000, 1000);
        x.runs(0);
        x.run(0, 0, 0);
        x.order(1000, 1, 0);
        x.leastLift(1000, 1);
        x.fault(0);
        Due.due("asking", x.count(4), states);
        x.type('0');
        Due.due("type", x.count(4), states);
        x.clearText();
        Due.due("clearText", x.count(4), states);
        Due.due("undo takes one", x.undo(), states - 1);
        Due.due("and adds none", x.count(4), states - 1);
    }

    /** The document asks only that no error is returned. */
    private static void changesWithoutADifference() {
        Words.of("that return no error.");
        PileSets x = new PileSets();
        x.set(0, 2000);
        Due.due("a setting as it is", x.count(4), 1);
        x.stratum(0, 10000, 50);
        Due.due("a stratum as it is", x.count(4), 2);
        x.carry();
        Due.due("an empty text", x.count(4), 3);
        x.pile(0, 0, 1000);
        x.undo();
        x.undo();
        x.undo();
        x.pile(0, 0, 1000);
        x.test(0, 1);
        Due.due("a test that it holds", x.count(4), 3);
        x.set(2, 50);
        x.strike(0, 100);
        Due.due("four", x.count(4), 4);
    }

    private static void atMostFour() {
        Words.of("A history of at most 4 states is kept:");
        PileSets x = new PileSets();
        for (int change = 1; change <= 7; change++) {
            x.set(4, change);
            Due.due("states behind " + change, x.count(4), Math.min(4, change));
        }
        for (int left = 3; left >= 0; left--) {
            Due.due("undo", x.undo(), left);
            Due.due("states", x.count(4), left);
        }
        Due.due("undo of none", x.undo(), -2);
    }

    private static void dropped() {
        Words.of("and if there are 5 states then, the oldest one is dropped.");
        for (int changes = 3; changes <= 6; changes++) {
            PileSets x = new PileSets();
            for (int change = 1; change <= changes; change++) {
                x.set(4, change);
            }
            int undone = Math.min(4, changes);
            for (int i = 1; i <= undone; i++) {
                x.undo();
                Due.due(changes + " changes, undone " + i, x.count(14), changes == i ? 3000 : changes - i);
            }
            Due.due(changes + " changes, undone all", x.undo(), -2);
            Due.due("it stays", x.count(14), changes <= 4 ? 3000 : changes - 4);
        }
    }

    /** Changes and undos by turns, so that the room for four states is gone round in all ways. */
    private static void roundAndRound() {
        Words.of("A history of at most 4 states is kept: each change records everything before it");
        for (int undone = 1; undone <= 4; undone++) {
            for (int turn = 4; turn <= 8; turn++) {
                changeAndUndo(turn, undone);
            }
        }
    }

    private static void changeAndUndo(int turn, int undone) {
        PileSets x = new PileSets();
        int[] past = new int[100];
        int changes = 0;
        for (int value = 1; value <= 60; value++) {
            past[changes] = (int) x.count(14);
            x.set(4, value);
            changes++;
            if (value % turn == 0) {
                // The changes of one turn fill the history each time.
                for (int left = 3; left > 3 - undone; left--) {
                    changes--;
                    Due.due("undo at " + value, x.undo(), left);
                    Due.due("value before " + value, x.count(14), past[changes]);
                }
            }
        }
    }

    private static void allButTheText() {
        Words.of("each change records everything before it but the text,");
        for (int which = 0; which < CHANGES; which++) {
            PileSets x = scene();
            long[] before = Look.at(x);
            change(x, which);
            x.undo();
            Look.dueAlike("undo of change " + which, Look.at(x), before);
        }
        for (int which = 0; which < CHANGES; which++) {
            PileSets x = scene();
            int length = (int) x.count(5);
            change(x, which);
            x.type('x');
            x.undo();
            Due.due("typed behind change " + which + ", it stays", x.count(5), length + 1);
            Due.due("with its fault", x.fault(0), length);
            change(x, which == 7 ? 0 : which);
            x.clearText();
            x.undo();
            Due.due("emptied behind change " + which + ", it stays", x.count(5), 0);
        }
        keptBlowsComeBack();
    }

    private static void keptBlowsComeBack() {
        PileSets x = Made.plain(50000);
        x.stratum(1, 20000, 10);
        x.set(2, 10);
        for (int i = 0; i < 40; i++) {
            // From 520 on the set is 500, so that the load tells the blows apart.
            x.strike(0, 300 + 20 * i);
        }
        x.drive(0, 3000, 0, 60);
        Due.due("none of them is kept", x.blow(0, 39, 1), 30000 / 510);
        x.undo();
        for (int index = 0; index < 40; index++) {
            int fall = 300 + 20 * (39 - index);
            int set = Math.min(500, fall - 10);
            Due.due("kept set " + index, x.blow(0, index, 0), set);
            Due.due("kept load " + index, x.blow(0, index, 1), 10 * fall / (set + 10));
        }
        Due.due("blows", x.pileOf(0, 4), 40);
        Due.due("load", x.pileOf(0, 5), 10800 / 510);
        x.undo();
        Due.due("39 kept", x.pileOf(0, 12), 39);
        Due.due("the latest", x.blow(0, 0, 1), 10600 / 510);
        Due.due("load then", x.pileOf(0, 5), 10600 / 510);
        Due.due("no 40th", x.blow(0, 39, 0), -4);
    }

    private static void undos() {
        Words.of("`int undo()`: Restores the latest state of the history, which is removed from it.");
        PileSets x = new PileSets();
        x.set(4, 1);
        x.set(4, 2);
        Words.of("Returns the number of states that are left in the history; NOT_POSSIBLE if it is empty.");
        Due.due("one left", x.undo(), 1);
        Due.due("the latest", x.count(14), 1);
        Due.due("none left", x.undo(), 0);
        Due.due("the one before", x.count(14), 3000);
        Due.due("empty", x.undo(), -2);
        Due.due("nothing restored", x.count(14), 3000);
        x.set(4, 3);
        Due.due("recorded anew", x.undo(), 0);
        Due.due("and restored", x.count(14), 3000);
        Due.due("of a new object", new PileSets().undo(), -2);
    }

    private static void priorities() {
        Words.of("If several errors apply to a call, INVALID_ARGUMENT is returned rather than NOT_POSSIBLE,");
        PileSets x = full();
        Due.due("pile: too long, where one stands, of ten", x.pile(0, 0, 50001), -1);
        Due.due("strike: no fall, at its length", x.strike(0, 99), -1);
        Due.due("drive: no fall, at its length", x.drive(0, 99, 0, 1), -1);
        Due.due("drive: no set, at its length", x.drive(0, 100, -1, 1), -1);
        Due.due("drive: no number, at its length", x.drive(0, 100, 0, 0), -1);
        Due.due("would: no fall, at its length", x.would(0, 3001), -1);
        Due.due("fallFor: no set, at its length", x.fallFor(0, 501), -1);
        Due.due("order: no fall, more than five", x.order(99, 1, 0), -1);
        Due.due("order: no blows, more than five", x.order(100, 0, 0), -1);
        Due.due("order: no index, more than five", x.order(100, 1, -1), -1);
        Due.due("leastLift: no fall, more than five", x.leastLift(99, 1), -1);
        Due.due("leastLift: no blows, more than five", x.leastLift(100, 21), -1);
        Words.of("NOT_POSSIBLE rather than LIMIT_REACHED,");
        Due.due("pile: where one stands, of ten", x.pile(0, 0, 1000), -2);
        Due.due("pile: of ten", x.pile(0, 1, 1000), -3);
        Due.due("stratum: too thin, of six", x.stratum(6, 99, 1), -1);
        Due.due("stratum: too hard, of six", x.stratum(6, 100, 501), -1);
        Due.due("stratum: of six", x.stratum(6, 100, 1), -3);
        Due.due("type: no character, of eighty", x.type(127), -1);
        Due.due("type: of eighty", x.type(126), -3);
        Words.of("and LIMIT_REACHED rather than NOT_FOUND.");
        // No call has both; what may be not found is behind all other errors.
        Due.due("fallFor: at its length, no such fall", x.fallFor(0, 500), -2);
        Due.due("order: more than five, no such index", x.order(100, 1, 99), -2);
        Due.due("blow: no such property, not kept", x.blow(0, 99, 2), -1);
        Due.due("run: no such property, no run", x.run(0, 99, 4), -1);
        Due.due("pileOf: none there, no blow", x.pileOf(10, 5), -1);
        Due.due("blowsTo: no fall, too deep", x.blowsTo(0, 99, 50000), -1);
        Due.due("blowsTo: too deep", x.blowsTo(0, 100, 50000), -4);
        Due.due("fault: no such property, no fault", new PileSets().fault(2), -1);
    }

    /** Six strata, ten piles, the first one at its length, and 80 characters with a fault. */
    private static PileSets full() {
        PileSets x = new PileSets();
        for (int k = 0; k < 6; k++) {
            x.stratum(k, 1000 + k, 20 + k);
        }
        for (int i = 0; i < 10; i++) {
            x.pile(i, 0, 1000 + 1000 * i);
        }
        x.drive(1, 800, 0, 3);
        x.strike(2, 900);
        x.test(0, 20000);
        x.strike(2, 700);
        for (int i = 0; i < 80; i++) {
            x.type("0:100;1:200*2;x".charAt(Math.min(i, 14)));
        }
        return x;
    }

    /** A call that is refused in the full state. */
    private static int refused(PileSets x, int which) {
        switch (which) {
            case 0: return x.stratum(6, 100, 1);
            case 1: return x.stratum(7, 100, 1);
            case 2: return x.stratum(-1, 100, 1);
            case 3: return x.stratum(0, 99, 1);
            case 4: return x.stratum(0, 20001, 1);
            case 5: return x.stratum(0, 100, 0);
            case 6: return x.stratum(0, 100, 501);
            case 7: return x.ground(6, 0);
            case 8: return x.ground(0, 4);
            case 9: return x.at(200001);
            case 10: return x.at(6015);
            case 11: return x.set(0, 99);
            case 12: return x.set(0, 10001);
            case 13: return x.set(6, 100);
            case 14: return x.set(-1, 100);
            case 15: return (int) x.count(16);
            case 16: return x.pile(-1, 1, 1000);
            case 17: return x.pile(0, 20001, 1000);
            case 18: return x.pile(0, 1, 999);
            case 19: return x.pile(0, 1, 50001);
            case 20: return x.pile(3, 0, 2000);
            case 21: return x.pile(0, 1, 2000);
            case 22: return x.pileOf(10, 0);
            case 23: return x.pileOf(0, 13);
            default: return refusedBlow(x, which);
        }
    }

    private static int refusedBlow(PileSets x, int which) {
        switch (which) {
            case 24: return x.pileOf(3, 6);
            case 25: return x.blow(2, -1, 0);
            case 26: return x.blow(2, 2, 0);
            case 27: return x.strike(0, 1000);
            case 28: return x.strike(1, 99);
            case 29: return x.strike(1, 3001);
            case 30: return x.strike(10, 1000);
            case 31: return x.drive(0, 1000, 0, 9);
            case 32: return x.drive(1, 99, 0, 9);
            case 33: return x.drive(1, 1000, -1, 9);
            case 34: return x.drive(1, 1000, 501, 9);
            case 35: return x.drive(1, 1000, 0, 0);
            case 36: return x.drive(1, 1000, 0, 101);
            case 37: return x.would(0, 1000);
            case 38: return x.fallFor(0, 100);
            case 39: return x.fallFor(1, 501);
            default: return refusedRest(x, which);
        }
    }

    private static int refusedRest(PileSets x, int which) {
        switch (which) {
            case 40: return x.blowsTo(1, 1000, 2001);
            case 41: return x.blowsTo(1, 1000, 50001);
            case 42: return x.test(1, 0);
            case 43: return x.test(1, 100001);
            case 44: return x.test(10, 50000);
            case 45: return x.runs(10);
            case 46: return x.run(1, 9, 0);
            case 47: return x.order(1000, 1, 0);
            case 48: return x.leastLift(1000, 1);
            case 49: return x.type('0');
            case 50: return x.type(127);
            case 51: return x.fault(2);
            case 52: return x.carry();
            default: return x.strike(-1, 1000);
        }
    }

    private static void refusedInAFullState() {
        Words.of("A call that returns an error changes nothing.");
        for (int which = 0; which < REFUSED; which++) {
            PileSets x = full();
            long[] before = Look.at(x);
            Due.dueTrue("call " + which + " is refused", refused(x, which) < 0);
            Look.dueAlike("behind call " + which, Look.at(x), before);
            Due.due("states behind call " + which, x.count(4), 4);
        }
        long[][] past = pastOf(full());
        for (int which = 0; which < REFUSED; which++) {
            PileSets x = full();
            refused(x, which);
            long[][] then = pastOf(x);
            for (int i = 0; i < past.length; i++) {
                Look.dueAlike("history behind call " + which + ", state " + i, then[i], past[i]);
            }
        }
    }

    /** What the undos bring back, by a few numbers each. */
    private static long[][] pastOf(PileSets x) {
        long[][] past = new long[5][];
        for (int i = 0; i < past.length; i++) {
            past[i] = new long[] {x.undo(), x.count(0), x.count(1), x.count(2), x.count(3), x.count(6), x.count(20),
                x.count(23), x.count(24), x.count(10), x.pileOf(1, 3), x.pileOf(2, 3), x.ground(0, 0)};
        }
        return past;
    }

    private static void refusedInAnEmptyState() {
        Words.of("A call that returns an error changes nothing.");
        PileSets x = new PileSets();
        long[] before = Look.at(x);
        int[] refused = {x.cut(), x.undo(), x.fault(0), x.fault(1), x.order(100, 1, 0), x.strike(0, 100),
            x.drive(0, 100, 0, 1), x.test(0, 100000), x.stratum(2, 100, 1), x.at(10000), x.type(31), x.set(5, 51)};
        int[] due = {-2, -2, -4, -4, -4, -1, -1, -1, -1, -4, -1, -1};
        for (int i = 0; i < due.length; i++) {
            Due.due("call " + i, refused[i], due[i]);
        }
        Look.dueAlike("behind them", Look.at(x), before);
        Due.due("no states", x.count(4), 0);
        Due.due("no undo", x.undo(), -2);
    }

    private static void noSuchPile() {
        Words.of("If there is no stratum or pile with a certain number, this is INVALID_ARGUMENT.");
        duePiles(new PileSets(), NEAR_END, -1, 0, 1, 9, 10, FAR);
        duePiles(Made.with(1000, 1000), NEAR_END, -1, 2, 3, 9, 10, FAR);
        duePiles(full(), NEAR_END, -1, 10, 11, FAR);
        PileSets x = Made.with(1000, 1000);
        x.undo();
        duePiles(x, 1);
        Words.of("- `pile`: number of the pile\n");
        Due.due("of the only one", x.pileOf(0, 2), 1000);
        Due.due("strike", x.strike(0, 100), 25);
    }

    private static void duePiles(PileSets x, int... numbers) {
        for (int pile : numbers) {
            for (int what = 0; what <= 12; what++) {
                Due.due("pileOf(" + pile + ", " + what + ")", x.pileOf(pile, what), -1);
            }
            Due.due("blow " + pile, x.blow(pile, 0, 0), -1);
            Due.due("strike " + pile, x.strike(pile, 1000), -1);
            Due.due("drive " + pile, x.drive(pile, 1000, 0, 9), -1);
            Due.due("would " + pile, x.would(pile, 1000), -1);
            Due.due("fallFor " + pile, x.fallFor(pile, 100), -1);
            Due.due("blowsTo " + pile, x.blowsTo(pile, 1000, 100), -1);
            Due.due("blowsTo " + pile + ", depth 0", x.blowsTo(pile, 1000, 0), -1);
            Due.due("test " + pile, x.test(pile, 1), -1);
            Due.due("runs " + pile, x.runs(pile), -1);
            Due.due("run " + pile, x.run(pile, 0, 0), -1);
        }
    }

    private static void noSuchStratum() {
        Words.of("If there is no stratum or pile with a certain number, this is INVALID_ARGUMENT.");
        PileSets x = new PileSets();
        x.stratum(1, 100, 1);
        for (int stratum : new int[] {NEAR_END, -1, 2, 5, 6, FAR}) {
            for (int what = 0; what <= 3; what++) {
                Due.due("ground(" + stratum + ", " + what + ")", x.ground(stratum, what), -1);
            }
        }
        Due.due("ground(1, 0)", x.ground(1, 0), 100);
        x.cut();
        Due.due("one that was cut", x.ground(1, 0), -1);
        Due.due("one two below the last", x.stratum(2, 100, 1), -1);
    }
}

/** Promises 8 to 17: pile, pileOf, blow, strike, drive, would, fallFor, blowsTo, test, undo. */
final class PilesTest {
    public static void main(String[] args) {
        placing();
        placingErrors();
        near();
        strikes();
        strikeErrors();
        setBounds();
        layersOfOneBlow();
        oneIsLeft();
        loads();
        keptBlows();
        keptLoads();
        lifts();
        looseness();
        drives();
        driveErrors();
        woulds();
        falls();
        blowsToDepths();
        loadTests();
        undone();
        undoAll();
        Due.end("PilesTest");
    }

    private static void placing() {
        PileSets x = new PileSets();
        Due.due("least pile", x.pile(0, 0, 1000), 0);
        Due.due("most pile", x.pile(20000, 20000, 50000), 1);
        int[] due = {20000, 20000, 50000, 0, 0, -4, -4, 0, 0, 0, 0, 0, 0};
        for (int what = 0; what < due.length; what++) {
            Due.due("pileOf(1, " + what + ")", x.pileOf(1, what), due[what]);
        }
        Due.due("a change", x.count(4), 2);
        Due.due("pileOf(1, -1)", x.pileOf(1, -1), -1);
        Due.due("pileOf(1, 13)", x.pileOf(1, 13), -1);
        Due.due("pileOf(2, 0)", x.pileOf(2, 0), -1);
        Due.due("pileOf(-1, 0)", x.pileOf(-1, 0), -1);
        Due.due("pileOf(2, 5)", x.pileOf(2, 5), -1);
    }

    private static void placingErrors() {
        PileSets x = new PileSets();
        Due.due("x -1", x.pile(-1, 0, 1000), -1);
        Due.due("x 20001", x.pile(20001, 0, 1000), -1);
        Due.due("y -1", x.pile(0, -1, 1000), -1);
        Due.due("y 20001", x.pile(0, 20001, 1000), -1);
        Due.due("length 999", x.pile(0, 0, 999), -1);
        Due.due("length 50001", x.pile(0, 0, 50001), -1);
        Due.due("no change", x.count(4), 0);
        for (int i = 0; i < 10; i++) {
            Due.due("pile " + i, x.pile(i, 5, 2000), i);
        }
        Due.due("an eleventh", x.pile(10, 5, 2000), -3);
        Due.due("an eleventh where one stands", x.pile(9, 5, 2000), -2);
        Due.due("an eleventh too short", x.pile(9, 5, 999), -1);
        Due.due("ten piles", x.count(1), 10);
        Due.due("no change by errors", x.count(4), 4);
        PileSets y = new PileSets();
        y.pile(3, 4, 2000);
        Due.due("the same place", y.pile(3, 4, 3000), -2);
        Due.due("the same x", y.pile(3, 5, 3000), 1);
        Due.due("the same y", y.pile(2, 4, 3000), 2);
        Due.due("turned", y.pile(4, 3, 3000), 3);
        Due.due("the length stays", y.pileOf(0, 2), 2000);
    }

    private static void near() {
        PileSets x = new PileSets();
        x.set(4, 100);
        x.pile(1000, 1000, 2000);
        x.pile(1100, 1100, 2000);
        x.pile(1101, 1000, 2000);
        x.pile(900, 900, 2000);
        x.pile(1000, 899, 2000);
        int[] due = {2, 2, 1, 2, 1};
        for (int i = 0; i < due.length; i++) {
            Due.due("near " + i, x.pileOf(i, 11), due[i]);
        }
        x.set(4, 101);
        Due.due("with more reach", x.pileOf(0, 11), 4);
        x.set(4, 0);
        Due.due("with no reach", x.pileOf(0, 11), 0);
        x.set(4, 10000);
        Due.due("with all reach", x.pileOf(0, 11), 4);
    }

    private static void strikes() {
        PileSets x = new PileSets();
        x.pile(0, 0, 1000);
        // The energy is 2000 * 999 * 70 / 10000 = 13986, the set 13986 / 50 - 3.
        Due.due("strike", x.strike(0, 999), 276);
        int[] due = {0, 0, 1000, 276, 1, 50, 25, 0, 276, 0, 0, 0, 1};
        for (int what = 0; what < due.length; what++) {
            Due.due("then pileOf(0, " + what + ")", x.pileOf(0, what), due[what]);
        }
        Due.due("energy", x.count(20), 13986);
        Due.due("work", x.count(21), 276 * 50);
        Due.due("sets", x.count(22), 276);
        Due.due("blows", x.count(3), 1);
        Due.due("a change", x.count(4), 2);
        Due.due("at most 500", x.strike(0, 3000), 500);
        Due.due("at most what is left", x.strike(0, 3000), 224);
        Due.due("the load of such a blow", x.pileOf(0, 5), 42000 / 227);
        Due.due("the foot is at the length", x.pileOf(0, 3), 1000);
        Due.due("then not possible", x.strike(0, 3000), -2);
        Due.due("no change", x.count(4), 4);
        Due.due("three blows", x.pileOf(0, 4), 3);
    }

    private static void strikeErrors() {
        PileSets x = new PileSets();
        Due.due("no pile", x.strike(0, 1000), -1);
        x.pile(0, 0, 1000);
        Due.due("pile -1", x.strike(-1, 1000), -1);
        Due.due("pile 1", x.strike(1, 1000), -1);
        Due.due("pile 10", x.strike(10, 1000), -1);
        Due.due("fall 99", x.strike(0, 99), -1);
        Due.due("fall 3001", x.strike(0, 3001), -1);
        Due.due("no change", x.count(4), 1);
        Due.due("fall 100", x.strike(0, 100), 25);
        Due.due("fall 3000", x.strike(0, 3000), 500);
        x.strike(0, 3000);
        Due.due("at its length", x.strike(0, 100), -2);
        Due.due("at its length, with a wrong fall", x.strike(0, 99), -1);
    }

    private static void setBounds() {
        PileSets x = new PileSets();
        x.stratum(0, 10000, 500);
        x.pile(0, 0, 20000);
        x.set(2, 50);
        Due.due("not below 0", x.strike(0, 100), 0);
        Due.due("the foot stays", x.pileOf(0, 3), 0);
        Due.due("its load", x.pileOf(0, 5), 28);
        Due.due("it counts as a blow", x.pileOf(0, 4), 1);
        x.set(0, 10000);
        x.set(1, 100);
        x.set(2, 0);
        x.stratum(0, 10000, 1);
        Due.due("at most 500", x.strike(0, 3000), 500);
        Due.due("its load then", x.pileOf(0, 5), 600);
        x.stratum(0, 10000, 500);
        // 10000 * 2500 * 100 does not fit into an int.
        Due.due("a large energy", x.strike(0, 2500), 500);
        Due.due("just below 500", x.strike(0, 2499), 499);
        Due.due("the energies", x.count(20), 1400 + 300000 + 250000 + 249900);
    }

    private static void layersOfOneBlow() {
        PileSets x = new PileSets();
        x.stratum(0, 100, 20);
        x.stratum(1, 100, 200);
        x.pile(0, 0, 5000);
        // 1400 / 20 - 3 = 67, though a part of the second blow is in the second stratum.
        Due.due("in the first", x.strike(0, 100), 67);
        Due.due("out of the first", x.strike(0, 100), 67);
        Due.due("work in the first alone", x.count(21), 134 * 20);
        Due.due("in the second", x.strike(0, 1500), 102);
        Due.due("work in the second", x.count(21), 134 * 20 + 102 * 200);
        Due.due("in the rock", x.strike(0, 3000), 18);
        Due.due("work in the rock", x.count(21), 134 * 20 + 102 * 200 + 18 * 2000);
    }

    private static void oneIsLeft() {
        PileSets x = new PileSets();
        x.pile(0, 0, 1000);
        Made.pressTo(x, 0, 999);
        Due.due("would", x.would(0, 1000), 1);
        Due.due("fallFor", x.fallFor(0, 1), 100);
        Due.due("blowsTo", x.blowsTo(0, 1000, 1000), 1);
        Due.due("strike", x.strike(0, 1000), 1);
        x.undo();
        Due.due("drive", x.drive(0, 1000, 500, 9), 1);
        PileSets y = new PileSets();
        y.pile(0, 0, 1000);
        Made.pressTo(y, 0, 722);
        Due.due("277 of 278 left, then 1", y.drive(0, 1000, 0, 9), 2);
        Due.due("the last set", y.blow(0, 0, 0), 1);
    }

    private static void loads() {
        PileSets x = new PileSets();
        x.pile(0, 0, 5000);
        x.set(2, 0);
        x.set(0, 100);
        x.set(1, 10);
        Due.due("no set", x.strike(0, 100), 0);
        Due.due("with no loss", x.pileOf(0, 5), 100000);
        Due.due("allowed", x.pileOf(0, 6), 50000);
        x.set(3, 300);
        Due.due("allowed with more safety", x.pileOf(0, 6), 33333);
        x.set(3, 100);
        Due.due("allowed with least safety", x.pileOf(0, 6), 100000);
        x.set(3, 500);
        Due.due("allowed with most safety", x.pileOf(0, 6), 20000);
        x.set(2, 1);
        x.set(0, 10000);
        x.set(1, 100);
        x.stratum(0, 100, 500);
        Made.pressTo(x, 0, 100);
        Due.due("set in the rock", x.strike(0, 3000), 149);
        Due.due("its load", x.pileOf(0, 5), 2000);
        x.set(2, 50);
        Due.due("the load stays when the loss changes", x.pileOf(0, 5), 2000);
        loadAtTheEnd();
        loadOfLossAlone();
    }

    private static void loadOfLossAlone() {
        PileSets x = new PileSets();
        x.pile(0, 0, 5000);
        x.stratum(0, 100, 500);
        x.set(2, 1);
        x.set(0, 100);
        Due.due("no set", x.strike(0, 3000), 3);
        Due.due("its load", x.pileOf(0, 5), 2100 / 4);
        Due.due("no set", x.strike(0, 500), 0);
        Due.due("its load is the energy", x.pileOf(0, 5), 350);
    }

    /** Less of the length is left than the set would be, so that the load becomes large. */
    private static void loadAtTheEnd() {
        PileSets x = new PileSets();
        x.pile(0, 0, 1000);
        x.pile(1, 0, 1000);
        x.set(2, 0);
        x.set(0, 10000);
        x.set(1, 100);
        Made.pressTo(x, 0, 999);
        Made.pressTo(x, 1, 997);
        Due.due("one is left", x.strike(0, 3000), 1);
        Due.due("at most 100000", x.pileOf(0, 5), 100000);
        Due.due("three are left", x.strike(1, 2990), 3);
        Due.due("below 100000", x.pileOf(1, 5), 99666);
    }

    /** All sets are 500, so that the loads differ. */
    private static void keptLoads() {
        PileSets x = new PileSets();
        x.stratum(0, 20000, 10);
        x.stratum(1, 20000, 10);
        x.set(2, 0);
        x.pile(0, 0, 50000);
        for (int i = 0; i < 43; i++) {
            Due.due("set", x.strike(0, 1000 + 40 * i), 500);
        }
        for (int index = 0; index < 40; index++) {
            Due.due("load " + index, x.blow(0, index, 1), (1000 + 40 * (42 - index)) * 14 / 500);
        }
        x.strike(0, 2900);
        x.undo();
        Due.due("latest after undo", x.blow(0, 0, 1), (1000 + 40 * 42) * 14 / 500);
        Due.due("earliest after undo", x.blow(0, 39, 1), (1000 + 40 * 3) * 14 / 500);
    }

    private static void keptBlows() {
        PileSets x = new PileSets();
        x.pile(0, 0, 50000);
        x.stratum(0, 20000, 50);
        Due.due("none kept", x.blow(0, 0, 0), -4);
        for (int i = 0; i < 45; i++) {
            x.strike(0, 1000 + 10 * i);
            Due.due("kept", x.pileOf(0, 12), Math.min(i + 1, 40));
        }
        Due.due("all blows", x.pileOf(0, 4), 45);
        for (int index = 0; index < 40; index++) {
            int energy = (1000 + 10 * (44 - index)) * 14;
            int set = energy / 50 - 3;
            Due.due("set " + index, x.blow(0, index, 0), set);
            Due.due("load " + index, x.blow(0, index, 1), energy / (set + 3));
        }
        Due.due("index 40", x.blow(0, 40, 0), -4);
        Due.due("index at the end of int", x.blow(0, Integer.MAX_VALUE, 1), -4);
        Due.due("index -1", x.blow(0, -1, 0), -1);
        Due.due("what -1", x.blow(0, 0, -1), -1);
        Due.due("what 2", x.blow(0, 0, 2), -1);
        Due.due("what 2 of none", x.blow(0, 40, 2), -1);
        Due.due("pile -1", x.blow(-1, 0, 0), -1);
        Due.due("pile 1", x.blow(1, 0, 0), -1);
        x.undo();
        Due.due("kept after undo", x.blow(0, 39, 0), (1000 + 10 * 4) * 14 / 50 - 3);
    }

    private static void lifts() {
        PileSets x = new PileSets();
        for (int i = 0; i < 5; i++) {
            x.pile(1000 * i, 0, 20000);
        }
        Made.pressTo(x, 1, 5);
        Made.pressTo(x, 2, 276);
        Made.pressTo(x, 3, 277);
        Made.pressTo(x, 4, 100);
        x.set(5, 10);
        Due.due("strike", x.strike(0, 1000), 277);
        Due.due("up to 0 alone", x.pileOf(1, 3), 0);
        Due.due("lifted by what there was", x.pileOf(1, 9), 5);
        Due.due("less deep by 1", x.pileOf(2, 3), 276 - 27);
        Due.due("as deep", x.pileOf(3, 3), 277);
        Due.due("as deep is not loose", x.pileOf(3, 7), 0);
        Due.due("not near", x.pileOf(4, 3), 100);
        Due.due("the struck one", x.pileOf(0, 3), 277);
        Due.due("sum", x.count(23), 32);
        Due.due("loose ones", x.count(2), 2);
        Due.due("deep sum", x.count(6), 277 + 249 + 277 + 100);
        x.set(5, 0);
        x.strike(0, 1000);
        Due.due("no lift at 0 percent", x.count(23), 32);
        x.set(5, 50);
        x.set(4, 999);
        x.strike(0, 1000);
        Due.due("no lift out of reach", x.count(23), 32);
        Due.due("sets go without lifts", x.pileOf(0, 8), 3 * 277);
        x.set(4, 2000);
        x.strike(0, 1000);
        Due.due("lift of the second", x.pileOf(2, 9), 27 + 138);
        Due.due("no lift at depth 0", x.pileOf(1, 9), 5);
        Due.due("lift of the third", x.pileOf(3, 9), 0);
        PileSets y = new PileSets();
        y.pile(0, 0, 5000);
        y.pile(1, 0, 5000);
        Made.pressTo(y, 0, 1);
        y.strike(1, 1000);
        Due.due("a foot at 1 is lifted by 1", y.pileOf(0, 9), 1);
        Due.due("and loose", y.pileOf(0, 7), 1);
    }

    private static void looseness() {
        PileSets x = new PileSets();
        x.pile(0, 0, 20000);
        x.pile(1, 0, 20000);
        x.strike(0, 500);
        x.set(5, 1);
        // A set of 99 lifts by 0, one of 100 by 1.
        x.stratum(0, 10000, 14);
        Made.pressTo(x, 1, 1000);
        x.set(2, 1);
        Due.due("set 99", x.strike(1, 100), 99);
        Due.due("not loose", x.pileOf(0, 7), 0);
        Due.due("not lifted", x.pileOf(0, 9), 0);
        x.set(2, 0);
        Due.due("set 100", x.strike(1, 100), 100);
        Due.due("loose", x.pileOf(0, 7), 1);
        Due.due("lifted by 1", x.pileOf(0, 9), 1);
        Due.due("its load", x.pileOf(0, 5), 50);
        Due.due("a half is allowed", x.pileOf(0, 6), 12);
        x.set(3, 100);
        Due.due("a half of the whole", x.pileOf(0, 6), 25);
        Due.due("test that it holds", x.test(0, 1), 0);
        Due.due("still loose", x.pileOf(0, 7), 1);
        Due.due("loose piles", x.count(2), 1);
        x.set(2, 50);
        x.stratum(0, 10000, 500);
        Due.due("a blow without a set", x.strike(0, 100), 0);
        Due.due("not loose then", x.pileOf(0, 7), 0);
        Due.due("lifts stay summed", x.pileOf(0, 9), 1);
        x.set(2, 0);
        x.set(5, 50);
        x.stratum(0, 10000, 14);
        x.strike(1, 100);
        Due.due("loose again", x.pileOf(0, 7), 1);
        Due.due("test that it does not hold", x.test(0, 500), 37);
        Due.due("not loose behind it", x.pileOf(0, 7), 0);
    }

    private static void drives() {
        PileSets x = new PileSets();
        x.stratum(0, 1000, 50);
        x.stratum(1, 1000, 100);
        x.pile(0, 0, 3000);
        // 277 in the first stratum, 137 in the second, 4 in the rock.
        Due.due("until 277", x.drive(0, 1000, 277, 100), 1);
        Due.due("until 276", x.drive(0, 1000, 276, 100), 4);
        Due.due("foot", x.pileOf(0, 3), 4 * 277 + 137);
        Due.due("two blows", x.drive(0, 1000, 136, 2), 2);
        Due.due("a change each", x.count(4), 4);
        Due.due("one blow at least", x.drive(0, 1000, 500, 1), 1);
        Due.due("until the rock", x.drive(0, 1000, 4, 100), 4);
        Due.due("foot in the rock", x.pileOf(0, 3), 4 * 277 + 7 * 137 + 4);
        Due.due("all blows", x.pileOf(0, 4), 12);
        Due.due("as many as told", x.drive(0, 3000, 0, 50), 50);
        Due.due("until the length", x.drive(0, 3000, 0, 100), 2);
        Due.due("at the length", x.pileOf(0, 3), 3000);
        Due.due("not possible", x.drive(0, 3000, 0, 100), -2);
        Due.due("energy", x.count(20), 12 * 14000 + 52 * 42000);
        PileSets y = new PileSets();
        y.pile(0, 0, 5000);
        y.pile(1, 0, 5000);
        y.drive(0, 1000, 0, 3);
        Due.due("one change", y.count(4), 3);
        y.drive(1, 1000, 0, 5);
        Due.due("each blow lifts", y.pileOf(0, 9), 2 * 11);
        Due.due("undo", y.undo(), 3);
        Due.due("takes all of them back", y.pileOf(1, 4), 0);
        Due.due("and the lifts", y.pileOf(0, 9), 0);
        Due.due("100 blows", y.drive(1, 100, 0, 100), 100);
    }

    private static void driveErrors() {
        PileSets x = new PileSets();
        Due.due("no pile", x.drive(0, 1000, 0, 1), -1);
        x.pile(0, 0, 1000);
        Due.due("pile 1", x.drive(1, 1000, 0, 1), -1);
        Due.due("pile -1", x.drive(-1, 1000, 0, 1), -1);
        Due.due("fall 99", x.drive(0, 99, 0, 1), -1);
        Due.due("fall 3001", x.drive(0, 3001, 0, 1), -1);
        Due.due("set -1", x.drive(0, 100, -1, 1), -1);
        Due.due("set 501", x.drive(0, 100, 501, 1), -1);
        Due.due("most 0", x.drive(0, 100, 0, 0), -1);
        Due.due("most 101", x.drive(0, 100, 0, 101), -1);
        Due.due("no change", x.count(4), 1);
        Due.due("no blow", x.count(3), 0);
        Due.due("set 500", x.drive(0, 3000, 500, 100), 1);
        Due.due("set 499", x.drive(0, 3000, 499, 100), 1);
        Due.due("at the length", x.drive(0, 3000, 499, 100), -2);
        Due.due("at the length with set 501", x.drive(0, 3000, 501, 100), -1);
    }

    private static void woulds() {
        PileSets x = new PileSets();
        Due.due("no pile", x.would(0, 1000), -1);
        x.pile(0, 0, 1000);
        Due.due("pile 1", x.would(1, 1000), -1);
        Due.due("fall 99", x.would(0, 99), -1);
        Due.due("fall 3001", x.would(0, 3001), -1);
        Due.due("fall 100", x.would(0, 100), 25);
        Due.due("fall 1000", x.would(0, 1000), 277);
        Due.due("fall 3000", x.would(0, 3000), 500);
        Due.due("no change", x.count(4), 1);
        Due.due("no blow", x.count(3), 0);
        Due.due("no depth", x.pileOf(0, 3), 0);
        Made.pressTo(x, 0, 990);
        Due.due("what is left", x.would(0, 1000), 10);
        x.set(2, 50);
        Due.due("not below 0", x.would(0, 100), 0);
        Made.pressTo(x, 0, 1000);
        Due.due("at the length", x.would(0, 1000), -2);
        Due.due("at the length with a wrong fall", x.would(0, 3001), -1);
    }

    private static void falls() {
        PileSets x = new PileSets();
        Due.due("no pile", x.fallFor(0, 10), -1);
        x.pile(0, 0, 1000);
        Due.due("pile 1", x.fallFor(1, 10), -1);
        Due.due("set -1", x.fallFor(0, -1), -1);
        Due.due("set 501", x.fallFor(0, 501), -1);
        Due.due("set 0", x.fallFor(0, 0), 100);
        Due.due("set 25", x.fallFor(0, 25), 100);
        Due.due("set 26", x.fallFor(0, 26), 104);
        Due.due("it is enough", x.would(0, 104), 26);
        Due.due("less is not", x.would(0, 103), 25);
        Due.due("set 500", x.fallFor(0, 500), 1797);
        Due.due("it is enough", x.would(0, 1797), 500);
        Due.due("less is not", x.would(0, 1796), 499);
        Due.due("no change", x.count(4), 1);
        Made.pressTo(x, 0, 900);
        Due.due("set 100 of 100 left", x.fallFor(0, 100), 368);
        Due.due("set 101 of 100 left", x.fallFor(0, 101), -4);
        x.stratum(0, 100, 1);
        Due.due("in the rock", x.fallFor(0, 18), 3000);
        Due.due("in the rock no more", x.fallFor(0, 19), -4);
        Made.pressTo(x, 0, 1000);
        Due.due("at the length", x.fallFor(0, 0), -2);
        Due.due("at the length, none anyway", x.fallFor(0, 400), -2);
        Due.due("at the length, wrong set", x.fallFor(0, 501), -1);
    }

    private static void blowsToDepths() {
        PileSets x = new PileSets();
        Due.due("no pile", x.blowsTo(0, 1000, 10), -1);
        x.pile(0, 0, 3000);
        x.stratum(0, 1000, 50);
        x.stratum(1, 100, 500);
        x.stratum(2, 1000, 100);
        int changes = (int) x.count(4);
        Due.due("pile 1", x.blowsTo(1, 1000, 10), -1);
        Due.due("fall 99", x.blowsTo(0, 99, 10), -1);
        Due.due("fall 3001", x.blowsTo(0, 3001, 10), -1);
        Due.due("depth -1", x.blowsTo(0, 1000, -1), -1);
        Due.due("depth 50001", x.blowsTo(0, 1000, 50001), -1);
        Due.due("depth 50000", x.blowsTo(0, 1000, 50000), -4);
        Due.due("depth 3001", x.blowsTo(0, 1000, 3001), -4);
        Due.due("depth 0", x.blowsTo(0, 1000, 0), 0);
        Due.due("depth 1", x.blowsTo(0, 1000, 1), 1);
        Due.due("depth 277", x.blowsTo(0, 1000, 277), 1);
        Due.due("depth 278", x.blowsTo(0, 1000, 278), 2);
        // Four blows go over the thin stratum, to 1108; then come 137 each, and 4 each in the rock.
        Due.due("depth 1108", x.blowsTo(0, 1000, 1108), 4);
        Due.due("depth 1109", x.blowsTo(0, 1000, 1109), 5);
        Due.due("depth 2100", x.blowsTo(0, 1000, 2100), 12);
        Due.due("depth 2204", x.blowsTo(0, 1000, 2204), 12);
        Due.due("depth 2205", x.blowsTo(0, 1000, 2205), 13);
        Due.due("depth 3000", x.blowsTo(0, 1000, 3000), 12 + 199);
        Due.due("no set in the rock", x.blowsTo(0, 428, 3000), -4);
        Due.due("which plays no part before", x.blowsTo(0, 428, 2100) > 0 ? 1 : 0, 1);
        Due.due("nothing changes", x.count(4), changes);
        // The energy 5992 makes 119 in the first stratum and 11 in the thin one, less the loss.
        x.set(2, 10);
        Due.due("a set of 1", x.blowsTo(0, 428, 1100), 10 + 10);
        x.set(2, 11);
        Due.due("a set of 0", x.blowsTo(0, 428, 1100), -4);
        x.set(2, 3);
        x.drive(0, 1000, 0, 5);
        Due.due("there", x.blowsTo(0, 1000, 1245), 0);
        Due.due("deeper", x.blowsTo(0, 1000, 1000), 0);
        Due.due("there, though no blow has a set", x.blowsTo(0, 100, 1245), 0);
        Due.due("one more", x.blowsTo(0, 1000, 1246), 1);
        Made.pressTo(x, 0, 3000);
        Due.due("at the length", x.blowsTo(0, 1000, 3000), 0);
    }

    private static void loadTests() {
        PileSets x = new PileSets();
        Due.due("no pile", x.test(0, 10), -1);
        x.pile(0, 0, 1000);
        x.pile(1, 0, 2000);
        Due.due("pile 2", x.test(2, 10), -1);
        Due.due("force 0", x.test(0, 0), -1);
        Due.due("force 100001", x.test(0, 100001), -1);
        Due.due("no change", x.count(4), 2);
        Due.due("force 1", x.test(0, 1), 0);
        Due.due("a change though it holds", x.count(4), 3);
        Due.due("500 holds", x.test(0, 500), 0);
        Due.due("501 does not", x.test(0, 501), 1);
        Due.due("509 does not", x.test(0, 509), 1);
        Due.due("510 does not", x.test(0, 510), 2);
        Due.due("foot", x.pileOf(0, 3), 4);
        Due.due("to 100", x.test(0, 500 + 950 + 1), 96);
        Due.due("501 holds at 100", x.test(0, 501), 0);
        Due.due("502 does not", x.test(0, 502), 1);
        Due.due("pressed", x.pileOf(0, 10), 101);
        Due.due("pressed in all", x.count(24), 101);
        Due.due("no blow", x.pileOf(0, 4), 0);
        Due.due("no set", x.pileOf(0, 8), 0);
        Due.due("not kept", x.pileOf(0, 12), 0);
        Due.due("no energy", x.count(20), 0);
        x.strike(1, 100);
        Due.due("at most to the length", x.test(0, 100000), 899);
        Due.due("a test lifts nothing", x.count(23), 0);
        Due.due("at the length", x.test(0, 100000), 0);
        Due.due("the length is told", x.pileOf(0, 3), 1000);
        x.stratum(0, 100, 50);
        Due.due("rock holds 20010", x.test(0, 20010), 0);
        Due.due("pressed in all then", x.count(24), 1000);
        PileSets y = new PileSets();
        y.pile(0, 0, 20000);
        Made.pressTo(y, 0, 5000);
        Made.pressTo(y, 0, 9999);
        Due.due("500 and 99 hold", y.test(0, 599), 0);
        Due.due("600 does not", y.test(0, 600), 1);
        Due.due("in the rock 20100 holds", y.test(0, 20100), 0);
        Due.due("in the rock 20101 does not", y.test(0, 20101), 1);
        looseAtTheLength();
    }

    private static void looseAtTheLength() {
        PileSets x = new PileSets();
        x.pile(0, 0, 1000);
        x.pile(1, 0, 5000);
        x.set(5, 50);
        Made.pressTo(x, 0, 1000);
        Made.pressTo(x, 1, 1000);
        x.strike(1, 1000);
        Due.due("lifted", x.pileOf(0, 9), 138);
        Due.due("loose without a blow", x.pileOf(0, 7), 1);
        Due.due("pressed back", x.test(0, 100000), 138);
        Due.due("not loose", x.pileOf(0, 7), 0);
        Due.due("no load", x.pileOf(0, 6), -4);
        // A lift only ever takes a foot away from its length, so a pile that is there can't be loose.
        Due.due("at the length", x.test(0, 100000), 0);
        Due.due("still not loose", x.pileOf(0, 7), 0);
    }

    private static void undone() {
        PileSets x = new PileSets();
        x.pile(0, 0, 5000);
        x.pile(1, 0, 5000);
        x.strike(0, 1000);
        x.strike(1, 2000);
        Due.due("four states", x.count(4), 4);
        x.type('a');
        x.strike(0, 300);
        Due.due("at most four", x.count(4), 4);
        Due.due("undo", x.undo(), 3);
        Due.due("the text stays", x.count(5), 1);
        Due.due("lifts are back", x.pileOf(0, 9), 20);
        Due.due("loose is back", x.pileOf(0, 7), 1);
        Due.due("load is back", x.pileOf(0, 5), 50);
        Due.due("undo of the lift", x.undo(), 2);
        Due.due("no lift", x.pileOf(0, 9), 0);
        Due.due("not loose", x.pileOf(0, 7), 0);
        Due.due("lift sum", x.count(23), 0);
        Due.due("energy", x.count(20), 14000);
        Due.due("undo of the blow", x.undo(), 1);
        Due.due("no blow", x.pileOf(0, 5), -4);
        Due.due("none kept", x.blow(0, 0, 0), -4);
        Due.due("undo of the pile", x.undo(), 0);
        Due.due("one pile", x.count(1), 1);
        Due.due("no more", x.undo(), -2);
        Due.due("the oldest was dropped", x.count(1), 1);
        Due.due("a pile anew", x.pile(7, 8, 3000), 1);
        int[] due = {7, 8, 3000, 0, 0, -4, -4, 0, 0, 0, 0, 1, 0};
        for (int what = 0; what < due.length; what++) {
            Due.due("anew pileOf(1, " + what + ")", x.pileOf(1, what), due[what]);
        }
        Due.due("recorded again", x.undo(), 0);
    }

    /** Everything but the text comes back: what is asked ahead of a change is answered alike behind its undo. */
    private static void undoAll() {
        for (int change = 0; change < 8; change++) {
            PileSets x = Made.with(5000, 5000);
            x.stratum(1, 3000, 70);
            x.strike(0, 1000);
            x.strike(1, 1500);
            long[] before = look(x);
            switch (change) {
                case 0 -> x.stratum(0, 500, 60);
                case 1 -> x.cut();
                case 2 -> x.set(0, 3000);
                case 3 -> x.pile(9, 9, 1000);
                case 4 -> x.strike(0, 900);
                case 5 -> x.drive(1, 900, 0, 50);
                case 6 -> x.test(0, 90000);
                default -> x.carry();
            }
            x.undo();
            long[] then = look(x);
            for (int i = 0; i < before.length; i++) {
                Due.due("undo of change " + change + ", look " + i, then[i], before[i]);
            }
        }
    }

    private static long[] look(PileSets x) {
        long[] seen = new long[120];
        int n = 0;
        for (int what : new int[] {0, 1, 2, 3, 6, 10, 11, 12, 13, 14, 15, 20, 21, 22, 23, 24}) {
            seen[n++] = x.count(what);
        }
        for (int stratum = 0; stratum < 3; stratum++) {
            for (int what = 0; what < 4; what++) {
                seen[n++] = x.ground(stratum, what);
            }
        }
        for (int pile = 0; pile < 3; pile++) {
            for (int what = 0; what < 13; what++) {
                seen[n++] = x.pileOf(pile, what);
            }
            for (int index = 0; index < 5; index++) {
                seen[n++] = x.blow(pile, index, 0);
                seen[n++] = x.blow(pile, index, 1);
            }
        }
        return seen;
    }
}

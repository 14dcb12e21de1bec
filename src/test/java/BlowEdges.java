/** The edges in what the document says of blows: promises 10 to 15. */
final class BlowEdges {
    private static final int FAR = Integer.MAX_VALUE;
    private static final int NEAR_END = Integer.MIN_VALUE;

    private BlowEdges() {
    }

    static void all() {
        roundedDown();
        falls();
        energies();
        leastSets();
        greatestSets();
        whatIsLeft();
        footGoesDown();
        wholeBlow();
        atItsLength();
        loads();
        loadsOfNothing();
        work();
        keptBlows();
        indexes();
        strikes();
        driveArguments();
        driveEnds();
        woulds();
        fallsFor();
        fallsThatAreNot();
        depthsOfBlowsTo();
        blowsToInVain();
        blowsToOverStrata();
    }

    private static void roundedDown() {
        Words.of("All numbers are whole numbers; divisions are rounded down. Depths, sets and lifts are in millimetres.");
        PileSets x = Made.with(5000, 5000, 5000);
        x.set(0, 101);
        x.set(1, 11);
        x.set(2, 0);
        x.strike(0, 103);
        Due.due("energy 114433 / 10000", x.count(20), 11);
        x.stratum(0, 10000, 4);
        Due.due("set 11 / 4", x.would(0, 103), 2);
        x.strike(0, 103);
        Due.due("load 11 / 2", x.pileOf(0, 5), 5);
        x.set(3, 300);
        Due.due("allowed 500 / 300", x.pileOf(0, 6), 1);
        x.set(3, 100);
        Made.pressTo(x, 1, 299);
        Due.due("held 40 + 299 / 100", x.test(1, 42), 0);
        Due.due("held 40 + 299 / 100, no more", x.test(1, 42 + 19), 19 / 10 + 1);
        x.set(0, 1000);
        x.set(1, 100);
        Made.pressTo(x, 2, 400);
        Due.due("a blow", x.strike(2, 100), 250);
        Due.due("lift 250 * 4 / 100", x.pileOf(1, 9), 10);
        x.set(5, 7);
        x.strike(2, 100);
        Due.due("lift 250 * 7 / 100", x.pileOf(1, 9), 10 + 17);
        Due.due("allowed 500 / 100 / 2", x.pileOf(0, 6), 2);
    }

    private static void falls() {
        Words.of("A blow with a fall h (100 to 3000)");
        PileSets x = Made.plain(50000);
        dueFalls(x);
        Due.due("none struck", x.count(3), 0);
        Words.of("- `fall`: 100 to 3000");
        Due.due("strike 100", x.strike(0, 100), 100);
        Due.due("strike 3000", x.strike(0, 3000), 500);
        Due.due("drive 100", x.drive(0, 100, 0, 1), 1);
        Due.due("drive 3000", x.drive(0, 3000, 0, 1), 1);
        Due.due("would 100", x.would(0, 100), 100);
        Due.due("would 3000", x.would(0, 3000), 500);
        Due.due("blowsTo 100", x.blowsTo(0, 100, 1300), 1);
        Due.due("blowsTo 3000", x.blowsTo(0, 3000, 1700), 1);
        Due.due("order 100", x.order(100, 1, 0), -4);
        Due.due("order 3000", x.order(3000, 1, 0), -4);
        Due.due("leastLift 100", x.leastLift(100, 1), 0);
        Due.due("leastLift 3000", x.leastLift(3000, 1), 0);
    }

    private static void dueFalls(PileSets x) {
        for (int fall : new int[] {NEAR_END, -100, 0, 99, 3001, FAR}) {
            Due.due("strike " + fall, x.strike(0, fall), -1);
            Due.due("drive " + fall, x.drive(0, fall, 0, 1), -1);
            Due.due("would " + fall, x.would(0, fall), -1);
            Due.due("blowsTo " + fall, x.blowsTo(0, fall, 1000), -1);
            Due.due("order " + fall, x.order(fall, 1, 0), -1);
            Due.due("leastLift " + fall, x.leastLift(fall, 1), -1);
        }
    }

    private static void energies() {
        Words.of("has the energy mass * h * efficiency / 10000.");
        PileSets x = Made.with(50000);
        x.strike(0, 100);
        Due.due("at first", x.count(20), 1400);
        x.set(0, 100);
        x.set(1, 10);
        x.strike(0, 100);
        Due.due("the least", x.count(20), 1400 + 10);
        x.strike(0, 199);
        Due.due("rounded down", x.count(20), 1410 + 19);
        x.set(0, 10000);
        x.set(1, 100);
        x.strike(0, 3000);
        Due.due("the greatest", x.count(20), 1429 + 300000);
        Due.due("the greatest on the way", x.pileOf(0, 5), 300000 / 503);
        x.set(0, 137);
        x.set(1, 21);
        x.strike(0, 101);
        Due.due("rounded down in the end alone", x.count(20), 301429 + 29);
    }

    private static void leastSets() {
        Words.of("Its set is energy / (the resistance at the depth of the foot) - loss, but not below 0,");
        PileSets x = Made.plain(5000);
        x.stratum(0, 20000, 500);
        // The energy 1000 makes 2, less the loss.
        int[] due = {2, 1, 0, 0, 0};
        for (int loss = 0; loss < due.length; loss++) {
            x.set(2, loss);
            Due.due("would with loss " + loss, x.would(0, 100), due[loss]);
            Due.due("strike with loss " + loss, x.strike(0, 100), due[loss]);
        }
        x.set(2, 50);
        Due.due("would with loss 50", x.would(0, 100), 0);
        Due.due("strike with loss 50", x.strike(0, 100), 0);
        Due.due("no foot goes up", x.pileOf(0, 3), 3);
        Due.due("no sum goes down", x.pileOf(0, 8), 3);
        Due.due("nor that of all", x.count(22), 3);
        Due.due("nor the work", x.count(21), 3 * 500);
        Due.due("a blow each", x.pileOf(0, 4), 6);
    }

    private static void greatestSets() {
        Words.of("at most 500, and at most");
        PileSets x = Made.plain(50000);
        for (int fall : new int[] {499, 500, 501, 3000}) {
            Due.due("would " + fall, x.would(0, fall), Math.min(500, fall));
            Due.due("strike " + fall, x.strike(0, fall), Math.min(500, fall));
        }
        x.set(2, 50);
        Due.due("less the loss, 499", x.would(0, 549), 499);
        Due.due("less the loss, 500", x.would(0, 550), 500);
        Due.due("less the loss, 501", x.would(0, 551), 500);
    }

    private static void whatIsLeft() {
        Words.of("at most what is left of the length below the foot.");
        PileSets x = Made.plain(1000);
        Made.pressTo(x, 0, 700);
        for (int fall : new int[] {299, 300, 301, 500, 3000}) {
            int due = Math.min(300, fall);
            Due.due("would " + fall, x.would(0, fall), due);
            Due.due("strike " + fall, x.strike(0, fall), due);
            Due.due("foot", x.pileOf(0, 3), 700 + due);
            x.undo();
        }
        Words.of("and never deeper than its length.");
        x.strike(0, 299);
        Due.due("one is left", x.strike(0, 3000), 1);
        Due.due("at its length", x.pileOf(0, 3), 1000);
        PileSets y = Made.plain(1000);
        Due.due("drive", y.drive(0, 3000, 0, 100), 2);
        Due.due("driven to its length", y.pileOf(0, 3), 1000);
        PileSets z = Made.plain(1000);
        z.test(0, 100000);
        Due.due("pressed to its length", z.pileOf(0, 3), 1000);
    }

    private static void footGoesDown() {
        Words.of("its foot is initially at the depth 0,");
        PileSets x = Made.plain(5000, 1000);
        Due.due("of the first", x.pileOf(0, 3), 0);
        Due.due("of the second", x.pileOf(1, 3), 0);
        Words.of("The foot goes down by the set.");
        x.strike(0, 123);
        Due.due("by one", x.pileOf(0, 3), 123);
        x.strike(0, 456);
        Due.due("by two", x.pileOf(0, 3), 579);
        x.strike(0, 3000);
        Due.due("by one of 500", x.pileOf(0, 3), 1079);
        x.stratum(0, 20000, 500);
        x.set(2, 50);
        Due.due("a set of 0", x.strike(0, 100), 0);
        Due.due("by one of 0", x.pileOf(0, 3), 1079);
    }

    private static void wholeBlow() {
        Words.of("(The resistance at the foot before the blow counts for the whole blow.)");
        PileSets x = Made.plain(5000);
        x.stratum(0, 100, 10);
        x.stratum(1, 100, 500);
        x.stratum(2, 100, 100);
        Made.pressTo(x, 0, 99);
        Due.due("from the last depth of the first", x.strike(0, 300), 300);
        Due.due("its work", x.count(21), 300 * 10);
        x.undo();
        Made.pressTo(x, 0, 100);
        Due.due("from the begin of the second", x.strike(0, 3000), 60);
        Due.due("its work", x.count(21), 60 * 500);
        Due.due("over the begin of the third", x.strike(0, 3000), 60);
        Due.due("its work", x.count(21), 120 * 500);
        Due.due("in the third", x.strike(0, 1000), 100);
        Due.due("its work", x.count(21), 120 * 500 + 100 * 100);
        Due.due("in the rock", x.strike(0, 3000), 15);
        Due.due("its work", x.count(21), 120 * 500 + 100 * 100 + 15 * 2000);
    }

    private static void atItsLength() {
        Words.of("A pile whose foot is at its length can not be struck.");
        PileSets x = Made.plain(1000);
        Made.pressTo(x, 0, 999);
        Due.due("one is left: would", x.would(0, 100), 1);
        Due.due("one is left: fallFor", x.fallFor(0, 1), 100);
        Due.due("one is left: strike", x.strike(0, 100), 1);
        x.undo();
        Due.due("one is left: drive", x.drive(0, 100, 0, 100), 1);
        Due.due("would", x.would(0, 100), -2);
        Due.due("fallFor", x.fallFor(0, 0), -2);
        Due.due("strike", x.strike(0, 100), -2);
        Due.due("drive", x.drive(0, 100, 0, 100), -2);
        Made.write(x, "0:100;");
        Due.due("carry", x.carry(), 0);
        Due.due("one blow in all", x.count(3), 1);
        Words.of("NOT_POSSIBLE if its foot is at its length");
        Due.due("strike 3000", x.strike(0, 3000), -2);
        Due.due("drive 3000", x.drive(0, 3000, 500, 1), -2);
        Due.due("would 3000", x.would(0, 3000), -2);
        Due.due("fallFor 500", x.fallFor(0, 500), -2);
        Due.due("blowsTo, which asks no blow", x.blowsTo(0, 100, 1000), 0);
    }

    private static void loads() {
        Words.of("The load of a blow is energy / (set + loss), with the set as it is told here, at most 100000,");
        PileSets x = Made.plain(1000, 1000, 1000, 1000, 1000);
        x.set(0, 10000);
        for (int pile = 0; pile < 5; pile++) {
            Made.pressTo(x, pile, 999);
        }
        // One is left, so that the load is the energy: 99999, 100000, 100002.
        x.set(1, 41);
        x.strike(0, 2439);
        Due.due("below", x.pileOf(0, 5), 99999);
        x.set(1, 40);
        x.strike(1, 2500);
        Due.due("just so", x.pileOf(1, 5), 100000);
        x.set(1, 42);
        x.strike(2, 2381);
        Due.due("above", x.pileOf(2, 5), 100000);
        Due.due("above, as it is kept", x.blow(2, 0, 1), 100000);
        x.set(1, 100);
        x.set(2, 2);
        x.strike(3, 3000);
        Due.due("with a loss", x.pileOf(3, 5), 100000);
        x.set(2, 3);
        x.strike(4, 3000);
        Due.due("with one more", x.pileOf(4, 5), 75000);
        PileSets y = Made.plain(5000);
        y.set(2, 3);
        y.strike(0, 3000);
        Due.due("with the set of 500", y.pileOf(0, 5), 30000 / 503);
    }

    private static void loadsOfNothing() {
        Words.of("and 100000 if set and loss are both 0.");
        PileSets x = Made.with(5000);
        x.stratum(0, 20000, 11);
        x.set(0, 100);
        x.set(1, 10);
        x.set(2, 0);
        // The energy is 10, or 11 with a fall of 110.
        Due.due("set", x.strike(0, 100), 0);
        Due.due("both 0", x.pileOf(0, 5), 100000);
        Due.due("both 0, as it is kept", x.blow(0, 0, 1), 100000);
        Due.due("set", x.strike(0, 110), 1);
        Due.due("the loss alone 0", x.pileOf(0, 5), 11);
        x.set(2, 1);
        Due.due("set", x.strike(0, 110), 0);
        Due.due("the set alone 0", x.pileOf(0, 5), 11);
        Due.due("set", x.strike(0, 220), 1);
        Due.due("neither", x.pileOf(0, 5), 11);
    }

    private static void work() {
        Words.of("The work in the ground of a blow is its set times the resistance.");
        PileSets x = Made.plain(1000);
        x.strike(0, 600);
        Due.due("with the set of 500", x.count(21), 5000);
        Made.pressTo(x, 0, 990);
        Due.due("a test does none", x.count(21), 5000);
        x.strike(0, 600);
        Due.due("with the set of what is left", x.count(21), 5100);
        PileSets y = Made.with(5000);
        y.set(2, 50);
        Due.due("no set", y.strike(0, 100), 0);
        Due.due("no work", y.count(21), 0);
    }

    private static void keptBlows() {
        Words.of("The latest 40 blows of a pile are kept, each with its set and its load.");
        PileSets x = Made.plain(50000, 50000);
        x.stratum(1, 20000, 10);
        x.set(4, 0);
        x.set(2, 10);
        x.strike(1, 499);
        for (int made = 1; made <= 42; made++) {
            Due.due("blow " + made, x.strike(0, 100 + made), 90 + made);
            int kept = Math.min(40, made);
            Due.due("kept", x.pileOf(0, 12), kept);
            Due.due("the latest", x.blow(0, 0, 0), 90 + made);
            Due.due("the earliest", x.blow(0, kept - 1, 0), 90 + made - kept + 1);
            Due.due("no earlier one", x.blow(0, kept, 0), -4);
            Due.due("blows", x.pileOf(0, 4), made);
        }
        Due.due("the sum of all sets, kept or not", x.pileOf(0, 8), 42 * 90 + 42 * 43 / 2);
        Due.due("of the other", x.blow(1, 0, 0), 489);
        Due.due("of the other, no more", x.blow(1, 1, 0), -4);
        x.set(2, 0);
        for (int index = 0; index < 40; index++) {
            int fall = 142 - index;
            Due.due("set " + index, x.blow(0, index, 0), fall - 10);
            Due.due("load " + index, x.blow(0, index, 1), 10);
        }
        for (int i = 0; i < 41; i++) {
            // 10 * fall / 500 tells the blows apart.
            x.strike(0, 500 + 50 * i);
        }
        for (int index = 0; index < 40; index++) {
            Due.due("load " + index + " of 500", x.blow(0, index, 1), 50 - index);
        }
    }

    private static void indexes() {
        Words.of("`int blow(int pile, int index, int what)`: Returns something of a kept blow.");
        PileSets x = Made.plain(50000);
        x.strike(0, 100);
        x.strike(0, 200);
        Words.of("- `index`: 0 for the latest one, and so on");
        Due.due("0", x.blow(0, 0, 0), 200);
        Due.due("1", x.blow(0, 1, 0), 100);
        Words.of("- `what`: 0: its set; 1: its load");
        Due.due("0", x.blow(0, 1, 0), 100);
        Due.due("1", x.blow(0, 1, 1), 10);
        for (int what : new int[] {NEAR_END, -1, 2, FAR}) {
            Due.due("" + what, x.blow(0, 0, what), -1);
            Due.due(what + " of none", x.blow(0, 2, what), -1);
        }
        Words.of("Returns the number; INVALID_ARGUMENT if an argument is out of range (index: negative); "
            + "NOT_FOUND if not so many are kept.");
        Due.due("-1", x.blow(0, -1, 0), -1);
        Due.due("far below", x.blow(0, NEAR_END, 1), -1);
        Due.due("2", x.blow(0, 2, 0), -4);
        Due.due("40", x.blow(0, 40, 1), -4);
        Due.due("far above", x.blow(0, FAR, 0), -4);
        PileSets y = Made.with(1000);
        Due.due("none kept", y.blow(0, 0, 0), -4);
        Due.due("none kept, -1", y.blow(0, -1, 0), -1);
    }

    private static void strikes() {
        Words.of("`int strike(int pile, int fall)`: Strikes a pile.");
        PileSets x = Made.plain(1000, 1000);
        Due.due("strike", x.strike(1, 321), 321);
        Due.due("its foot", x.pileOf(1, 3), 321);
        Due.due("the other's", x.pileOf(0, 3), 0);
        Words.of("Returns the set; INVALID_ARGUMENT if an argument is out of range; "
            + "NOT_POSSIBLE if its foot is at its length.");
        Due.due("500", x.strike(1, 500), 500);
        Due.due("what is left", x.strike(1, 500), 179);
        Due.due("at its length", x.strike(1, 500), -2);
        Due.due("at its length, fall 99", x.strike(1, 99), -1);
        Due.due("at its length, fall 3001", x.strike(1, 3001), -1);
        Due.due("none there", x.strike(2, 500), -1);
    }

    private static void driveArguments() {
        Words.of("- `set`: 0 to 500");
        PileSets x = Made.plain(50000);
        for (int set : new int[] {NEAR_END, -1, 501, FAR}) {
            Due.due("drive until " + set, x.drive(0, 100, set, 1), -1);
            Due.due("fallFor " + set, x.fallFor(0, set), -1);
        }
        Due.due("drive until 0", x.drive(0, 100, 0, 1), 1);
        Due.due("drive until 500", x.drive(0, 100, 500, 1), 1);
        Due.due("fallFor 0", x.fallFor(0, 0), 100);
        Due.due("fallFor 500", x.fallFor(0, 500), 500);
        Words.of("- `most`: 1 to 100");
        for (int most : new int[] {NEAR_END, -1, 0, 101, FAR}) {
            Due.due("at most " + most, x.drive(0, 100, 0, most), -1);
        }
        Due.due("two blows so far", x.count(3), 2);
        Due.due("at most 1", x.drive(0, 100, 0, 1), 1);
        Due.due("at most 100", x.drive(0, 100, 0, 100), 100);
        Due.due("blows then", x.count(3), 103);
        Words.of("Returns how many blows there were; INVALID_ARGUMENT if an argument is out of range; "
            + "NOT_POSSIBLE if its foot is at its length.");
        PileSets y = Made.plain(1000);
        Due.due("two", y.drive(0, 500, 0, 100), 2);
        Due.due("at its length", y.drive(0, 500, 0, 100), -2);
        Due.due("at its length, fall 99", y.drive(0, 99, 0, 100), -1);
        Due.due("at its length, set 501", y.drive(0, 500, 501, 100), -1);
        Due.due("at its length, most 0", y.drive(0, 500, 0, 0), -1);
    }

    private static void driveEnds() {
        Words.of("Strikes a pile with blows alike, at least once, until the set of one is at most a given one,");
        PileSets x = Made.plain(20000);
        x.stratum(0, 1000, 10);
        x.stratum(1, 1000, 20);
        x.stratum(2, 1000, 40);
        Due.due("the first is at most", x.drive(0, 200, 200, 100), 1);
        Due.due("the first is less", x.drive(0, 200, 500, 100), 1);
        Due.due("the first of 100, above 100", x.drive(0, 200, 100, 100), 4);
        Due.due("foot", x.pileOf(0, 3), 1100);
        Due.due("99 is below all of 100", x.drive(0, 200, 99, 100), 10);
        Due.due("the first of 50", x.blow(0, 0, 0), 50);
        Words.of("or its foot is at its length, or there were as many blows as told.");
        Due.due("as many as told", x.drive(0, 200, 0, 7), 7);
        Due.due("one more of those", x.drive(0, 200, 0, 1), 1);
        PileSets y = Made.plain(1000);
        Due.due("to its length", y.drive(0, 250, 0, 100), 4);
        Due.due("there", y.pileOf(0, 3), 1000);
        y.undo();
        Due.due("to its length by as many as told", y.drive(0, 250, 0, 4), 4);
        y.undo();
        Due.due("one short of it", y.drive(0, 250, 0, 3), 3);
        Due.due("foot", y.pileOf(0, 3), 750);
        y.undo();
        Due.due("with less in the end", y.drive(0, 300, 0, 100), 4);
        Due.due("less", y.blow(0, 0, 0), 100);
        PileSets z = Made.with(1000);
        z.set(2, 50);
        Due.due("a set of 0 is at most 0", z.drive(0, 100, 0, 100), 1);
        Due.due("one blow", z.pileOf(0, 4), 1);
    }

    private static void woulds() {
        Words.of("`int would(int pile, int fall)`: Returns the set that a blow would have. Nothing changes.");
        PileSets x = Made.plain(1000, 1000);
        Made.pressTo(x, 0, 500);
        Made.pressTo(x, 1, 100);
        long[] before = Look.at(x);
        Due.due("would", x.would(0, 321), 321);
        Look.dueAlike("behind it", Look.at(x), before);
        Due.due("strike", x.strike(0, 321), 321);
        Words.of("Returns the set; INVALID_ARGUMENT if an argument is out of range; "
            + "NOT_POSSIBLE if its foot is at its length.");
        Due.due("what is left", x.would(0, 500), 179);
        x.strike(0, 500);
        Due.due("at its length", x.would(0, 500), -2);
        Due.due("at its length, fall 99", x.would(0, 99), -1);
        Due.due("at its length, fall 3001", x.would(0, 3001), -1);
        Due.due("none there", x.would(2, 500), -1);
    }

    private static void fallsFor() {
        Words.of("`int fallFor(int pile, int set)`: Returns the least fall with which a blow would have at least a set.");
        PileSets x = Made.with(50000);
        for (int set : new int[] {25, 26, 27, 100, 499, 500}) {
            int fall = x.fallFor(0, set);
            Due.dueTrue("set " + set + " with it", x.would(0, fall) >= set);
            Due.dueTrue("set " + set + " not with less", fall == 100 || x.would(0, fall - 1) < set);
        }
        Due.due("set 26", x.fallFor(0, 26), 104);
        Words.of("Returns the fall, 100 to 3000; INVALID_ARGUMENT if an argument is out of range;");
        Due.due("set 0", x.fallFor(0, 0), 100);
        Due.due("set 25", x.fallFor(0, 25), 100);
        x.stratum(0, 10000, 500);
        Due.due("set 81", x.fallFor(0, 81), 3000);
        Due.due("set 82", x.fallFor(0, 82), -4);
        x.set(0, 1999);
        Due.due("set 81 with less mass", x.fallFor(0, 81), -4);
        Due.due("set 80 with less mass", x.fallFor(0, 80), 2966);
        Due.due("none there", x.fallFor(1, 80), -1);
        Due.due("none there, none anyway", x.fallFor(1, 500), -1);
    }

    private static void fallsThatAreNot() {
        Words.of("NOT_FOUND if there is none (also if less of the length is left).");
        PileSets x = Made.plain(1000);
        Made.pressTo(x, 0, 700);
        Due.due("as much as is left", x.fallFor(0, 300), 300);
        Due.due("more than is left", x.fallFor(0, 301), -4);
        Due.due("500", x.fallFor(0, 500), -4);
        Made.pressTo(x, 0, 999);
        Due.due("1 of 1 left", x.fallFor(0, 1), 100);
        Due.due("2 of 1 left", x.fallFor(0, 2), -4);
        Made.pressTo(x, 0, 1000);
        Due.due("at its length, 2", x.fallFor(0, 2), -2);
        Due.due("at its length, 0", x.fallFor(0, 0), -2);
        Due.due("at its length, 501", x.fallFor(0, 501), -1);
        PileSets y = Made.with(50000);
        y.set(2, 50);
        y.set(0, 100);
        Due.due("no fall has a set of 1", y.fallFor(0, 1), -4);
        Due.due("all have one of 0", y.fallFor(0, 0), 100);
    }

    private static void depthsOfBlowsTo() {
        Words.of("- `depth`: 0 to 50000");
        PileSets x = Made.plain(50000, 1000);
        x.set(4, 0);
        x.stratum(1, 20000, 10);
        x.stratum(2, 20000, 10);
        for (int depth : new int[] {NEAR_END, -1, 50001, FAR}) {
            Due.due("depth " + depth, x.blowsTo(0, 500, depth), -1);
        }
        Due.due("depth 0", x.blowsTo(0, 500, 0), 0);
        Due.due("depth 50000", x.blowsTo(0, 500, 50000), 100);
        Words.of("Returns how many blows alike it would take to drive the foot of a pile to a depth or deeper.");
        Due.due("depth 1", x.blowsTo(0, 500, 1), 1);
        Due.due("depth 500", x.blowsTo(0, 500, 500), 1);
        Due.due("depth 501", x.blowsTo(0, 500, 501), 2);
        Due.due("no blow is made", x.count(3), 0);
        Words.of("Returns the number, 0 if it is there; INVALID_ARGUMENT if an argument is out of range;");
        Due.due("there, fall 99", x.blowsTo(0, 99, 0), -1);
        Due.due("there, fall 3001", x.blowsTo(0, 3001, 0), -1);
        Due.due("none there", x.blowsTo(2, 500, 0), -1);
        x.strike(0, 500);
        Due.due("there", x.blowsTo(0, 500, 500), 0);
        Due.due("deeper", x.blowsTo(0, 500, 499), 0);
        Due.due("at 0", x.blowsTo(0, 500, 0), 0);
        Due.due("not yet", x.blowsTo(0, 500, 501), 1);
        Due.due("at 0 without a blow", x.blowsTo(1, 500, 0), 0);
        Made.pressTo(x, 1, 1000);
        Due.due("at its length", x.blowsTo(1, 500, 1000), 0);
        Due.due("at its length, deeper", x.blowsTo(1, 500, 999), 0);
    }

    private static void blowsToInVain() {
        Words.of("NOT_FOUND if a blow has the set 0 before, or its length is less than the depth.");
        PileSets x = Made.plain(2000, 1000);
        x.stratum(0, 500, 10);
        x.stratum(1, 500, 500);
        x.set(2, 2);
        // With a fall of 102 the set is 100 in the first stratum, and 0 in the second.
        Due.due("before the set of 0", x.blowsTo(0, 102, 500), 5);
        Due.due("behind the set of 0", x.blowsTo(0, 102, 501), -4);
        Due.due("over a part of it", x.blowsTo(0, 103, 505), 5);
        Due.due("behind that", x.blowsTo(0, 103, 506), -4);
        Due.due("with a set of 1", x.blowsTo(0, 150, 592), 4);
        Due.due("with a set of 1, one more", x.blowsTo(0, 150, 593), 5);
        Due.due("a set of 0 in the rock", x.blowsTo(0, 150, 1001), -4);
        Due.due("not before", x.blowsTo(0, 150, 1000), 4 + 408);
        Due.due("its length", x.blowsTo(1, 3000, 1000), 1 + 9);
        Due.due("more than its length", x.blowsTo(1, 3000, 1001), -4);
        Due.due("much more", x.blowsTo(1, 3000, 50000), -4);
        Due.due("none there", x.blowsTo(2, 3000, 50000), -1);
        x.test(0, 5001);
        Made.pressTo(x, 0, 600);
        Due.due("there, where no blow has a set", x.blowsTo(0, 100, 600), 0);
        Due.due("one more, where no blow has a set", x.blowsTo(0, 100, 601), -4);
    }

    /** A stratum in which no blow begins plays no part, though a blow in it would have the set 0. */
    private static void blowsToOverStrata() {
        Words.of("NOT_FOUND if a blow has the set 0 before,");
        PileSets x = Made.plain(5000);
        x.set(2, 5);
        x.stratum(0, 400, 10);
        x.stratum(1, 100, 500);
        x.stratum(2, 500, 10);
        // With a fall of 255 the set is 250, or 0 in the second stratum; with 265 it is 260 or 0.
        Due.due("into it", x.blowsTo(0, 255, 499), 2);
        Due.due("just over it", x.blowsTo(0, 255, 500), 2);
        Due.due("beyond, from its end", x.blowsTo(0, 255, 501), 3);
        Due.due("beyond, from its end, to the third", x.blowsTo(0, 255, 1000), 4);
        Due.due("beyond, from below it", x.blowsTo(0, 265, 521), 3);
        Due.due("the rock begins where the fourth blow ends", x.blowsTo(0, 255, 1001), -4);
        Due.due("the fourth blow ends in the rock", x.blowsTo(0, 265, 1040), 4);
        Due.due("no fifth one", x.blowsTo(0, 265, 1041), -4);
        Made.pressTo(x, 0, 400);
        Due.due("from its begin", x.blowsTo(0, 255, 401), -4);
        Made.pressTo(x, 0, 500);
        Due.due("from its end", x.blowsTo(0, 255, 1000), 2);
        x.cut();
        x.cut();
        x.set(2, 0);
        // In the rock, where two strata were: 30000 / 2000.
        Due.due("in the rock", x.blowsTo(0, 3000, 530), 2);
        Made.pressTo(x, 0, 600);
        Due.due("deeper in the rock", x.blowsTo(0, 3000, 631), 3);
    }
}

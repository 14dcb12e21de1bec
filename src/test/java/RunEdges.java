/** The edges in what the document says of runs: promises 18 and 19. */
final class RunEdges {
    private static final int FAR = Integer.MAX_VALUE;
    private static final int NEAR_END = Integer.MIN_VALUE;

    private RunEdges() {
    }

    static void all() {
        zeros();
        fromTheEarliest();
        keptOnes();
        goesOn();
        nextRun();
        shortOnes();
        numbering();
        counts();
        properties();
        errors();
    }

    /** Runs as {first set, size, load, sum}, of which the load may be left out. */
    private static void dueRuns(String name, PileSets x, int[]... runs) {
        Due.due(name + ": runs", x.runs(0), runs.length);
        for (int run = 0; run < runs.length; run++) {
            for (int what = 0; what < runs[run].length; what++) {
                Due.due(name + ": run(0, " + run + ", " + what + ")", x.run(0, run, what), runs[run][what]);
            }
        }
        Due.due(name + ": no more", x.run(0, runs.length, 0), -4);
    }

    private static void zeros() {
        Words.of("The kept sets of a pile that are above 0 (those of 0 are left out first),");
        dueRuns("0 alone", Made.withSets(0, 0, 0, 0));
        dueRuns("1 alone", Made.withSets(1, 1, 1), new int[] {1, 3, 100, 3});
        dueRuns("0 between", Made.withSets(0, 50, 0, 50, 0, 0, 50, 0), new int[] {50, 3, 100, 150});
        dueRuns("0 beside 1", Made.withSets(1, 0, 1, 0), new int[0][]);
        dueRuns("0 beside three of 1", Made.withSets(0, 1, 0, 1, 1, 0), new int[] {1, 3, 100, 3});
        dueRuns("0 and 2", Made.withSets(0, 1, 0, 2, 0, 2, 0, 1), new int[] {1, 4, 100, 6});
        dueRuns("0 between two runs", Made.withSets(9, 9, 9, 0, 5, 5, 5), new int[] {9, 3, 100, 27},
            new int[] {5, 3, 100, 15});
    }

    private static void fromTheEarliest() {
        Words.of("from the earliest one on, are cut into runs:");
        dueRuns("up", Made.withSets(20, 21, 22, 22, 22), new int[] {22, 3, 100, 66});
        dueRuns("down", Made.withSets(22, 21, 20, 20, 20), new int[] {20, 3, 100, 60});
        dueRuns("up from three", Made.withSets(20, 20, 21, 22, 22), new int[] {20, 3, 100, 61});
    }

    private static void keptOnes() {
        Words.of("The kept sets of a pile");
        PileSets x = Made.withSets(30, 30, 30);
        for (int i = 0; i < 37; i++) {
            x.strike(0, Made.fallOf(20));
        }
        dueRuns("40 blows", x, new int[] {30, 3, 100, 90}, new int[] {20, 37, 100, 740});
        x.strike(0, Made.fallOf(20));
        dueRuns("41 blows", x, new int[] {20, 38, 100, 760});
        for (int i = 0; i < 2; i++) {
            x.strike(0, Made.fallOf(20));
        }
        dueRuns("43 blows", x, new int[] {20, 40, 100, 800});
        x.strike(0, Made.fallOf(20));
        dueRuns("44 blows", x, new int[] {20, 40, 100, 800});
    }

    private static void goesOn() {
        Words.of("a run goes on as long as the next set differs from the first one of the run by at most 1;");
        dueRuns("by 0", Made.withSets(50, 50, 50), new int[] {50, 3, 100, 150});
        dueRuns("by 1 more", Made.withSets(50, 51, 51), new int[] {50, 3, 100, 152});
        dueRuns("by 1 less", Made.withSets(50, 49, 49), new int[] {50, 3, 100, 148});
        dueRuns("by 1 to both sides", Made.withSets(50, 51, 49, 51, 50), new int[] {50, 5, 100, 251});
        dueRuns("by 2 more", Made.withSets(50, 50, 52));
        dueRuns("by 2 less", Made.withSets(50, 50, 48));
        dueRuns("from the first one, not from the one before", Made.withSets(50, 51, 52, 53, 54, 55));
        dueRuns("not from the least one", Made.withSets(50, 49, 51, 49), new int[] {50, 4, 100, 199});
    }

    private static void nextRun() {
        Words.of("the set that differs more begins the next run.");
        dueRuns("it is its first", Made.withSets(50, 50, 50, 48, 49, 47), new int[] {50, 3, 100, 150},
            new int[] {48, 3, 100, 144});
        dueRuns("by 2", Made.withSets(50, 51, 50, 52, 53, 51), new int[] {50, 3, 100, 151}, new int[] {52, 3, 100, 156});
        dueRuns("a run once ended is ended", Made.withSets(50, 50, 50, 80, 50, 50, 50), new int[] {50, 3, 100, 150},
            new int[] {50, 3, 100, 150});
    }

    private static void shortOnes() {
        Words.of("Runs of less than 3 sets are left out then.");
        dueRuns("none", Made.withSets());
        dueRuns("1", Made.withSets(50));
        dueRuns("2", Made.withSets(50, 50));
        dueRuns("3", Made.withSets(50, 50, 50), new int[] {50, 3});
        dueRuns("2 ahead of 3", Made.withSets(70, 70, 50, 50, 50), new int[] {50, 3});
        dueRuns("2 behind 3", Made.withSets(50, 50, 50, 70, 70), new int[] {50, 3});
        dueRuns("left out then, so that its sets still part others", Made.withSets(50, 50, 70, 50, 50));
        dueRuns("2 between 3", Made.withSets(50, 50, 50, 70, 70, 30, 30, 30), new int[] {50, 3}, new int[] {30, 3});
    }

    private static void numbering() {
        Words.of("So strata are found again; runs are numbered from 0.");
        PileSets x = Made.plain(5000);
        x.stratum(0, 600, 10);
        x.stratum(1, 400, 20);
        x.stratum(2, 900, 10);
        x.drive(0, 200, 0, 9);
        // The blows that begin in each: 0, 200, 400; 600, 700, 800, 900; 1000 and so on.
        dueRuns("strata", x, new int[] {200, 3, 10, 600}, new int[] {100, 4, 20, 400});
        x.drive(0, 200, 0, 1);
        dueRuns("strata", x, new int[] {200, 3, 10, 600}, new int[] {100, 4, 20, 400}, new int[] {200, 3, 10, 600});
        Words.of("- `run`: 0 for the first one, and so on");
        PileSets most = Made.withSets();
        for (int i = 0; i < 40; i++) {
            most.strike(0, Made.fallOf(10 + i / 3 * 2));
        }
        Due.due("runs of 40 sets", most.runs(0), 13);
        for (int run = 0; run < 13; run++) {
            Due.due("first set of " + run, most.run(0, run, 0), 10 + 2 * run);
        }
        Due.due("13", most.run(0, 13, 0), -4);
    }

    private static void counts() {
        Words.of("`int runs(int pile)`: Counts the runs of a pile.");
        PileSets x = Made.withSets(50, 50, 50);
        Due.due("of one with a run", x.runs(0), 1);
        x.pile(1, 0, 1000);
        Due.due("of one without blows", x.runs(1), 0);
        Words.of("Returns the number of runs; INVALID_ARGUMENT.");
        for (int pile : new int[] {NEAR_END, -1, 2, 10, FAR}) {
            Due.due("runs(" + pile + ")", x.runs(pile), -1);
        }
    }

    private static void properties() {
        Words.of("`int run(int pile, int run, int what)`: Returns something of a run of a pile.");
        PileSets x = Made.withSets();
        // With 9 more of the fall the set is the same, but the load is 100 + 90 / (set + 10).
        x.strike(0, Made.fallOf(40) + 9);
        x.strike(0, Made.fallOf(41));
        x.strike(0, Made.fallOf(39));
        x.strike(0, Made.fallOf(20));
        x.strike(0, Made.fallOf(21) + 9);
        x.strike(0, Made.fallOf(21) + 9);
        x.strike(0, Made.fallOf(21) + 9);
        Words.of("- `what`: 0: its first set; 1: how many sets it has; 2: the load of its first blow; 3: the sum of its sets");
        dueRuns("of two", x, new int[] {40, 3, 101, 120}, new int[] {20, 4, 100, 83});
        for (int what : new int[] {NEAR_END, -1, 4, FAR}) {
            Due.due("what " + what, x.run(0, 0, what), -1);
            Due.due("what " + what + " of none", x.run(0, 2, what), -1);
        }
        PileSets y = Made.plain(20000);
        // The sets of 0 have a load too, which is not that of the first blow of the run.
        y.stratum(0, 20000, 500);
        y.set(2, 5);
        y.strike(0, 110);
        y.set(2, 1);
        for (int i = 0; i < 3; i++) {
            y.strike(0, 100);
        }
        dueRuns("behind one of 0", y, new int[] {1, 3, 500, 3});
    }

    private static void errors() {
        Words.of("Returns the number; INVALID_ARGUMENT if an argument is out of range (run: negative); "
            + "NOT_FOUND if there are not so many.");
        PileSets x = Made.withSets(50, 50, 50);
        Due.due("-1", x.run(0, -1, 0), -1);
        Due.due("far below", x.run(0, NEAR_END, 0), -1);
        Due.due("0", x.run(0, 0, 0), 50);
        Due.due("1", x.run(0, 1, 0), -4);
        Due.due("far above", x.run(0, FAR, 3), -4);
        Due.due("-1 of none there", x.run(1, -1, 0), -1);
        Due.due("1 of none there", x.run(1, 1, 0), -1);
        PileSets y = Made.with(1000);
        Due.due("no run", y.run(0, 0, 0), -4);
        Due.due("no run, -1", y.run(0, -1, 0), -1);
    }
}

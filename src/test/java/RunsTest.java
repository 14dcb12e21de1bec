/** Promises 18 and 19: runs, run. */
final class RunsTest {
    public static void main(String[] args) {
        errors();
        none();
        shortRuns();
        fromTheFirstOne();
        zerosAreLeftOut();
        shortOnesCutToo();
        loadsOfRuns();
        latestOnes();
        Due.end("RunsTest");
    }

    private static void errors() {
        PileSets x = new PileSets();
        Due.due("no pile", x.runs(0), -1);
        Due.due("run of no pile", x.run(0, 0, 0), -1);
        x = Made.withSets(5, 5, 5);
        Due.due("runs(-1)", x.runs(-1), -1);
        Due.due("runs(1)", x.runs(1), -1);
        Due.due("pile 1", x.run(1, 0, 0), -1);
        Due.due("pile -1", x.run(-1, 0, 0), -1);
        Due.due("run -1", x.run(0, -1, 0), -1);
        Due.due("what -1", x.run(0, 0, -1), -1);
        Due.due("what 4", x.run(0, 0, 4), -1);
        Due.due("what 4 of none", x.run(0, 1, 4), -1);
        Due.due("run 1", x.run(0, 1, 0), -4);
        Due.due("run at the end of int", x.run(0, Integer.MAX_VALUE, 3), -4);
        Due.due("no change", x.count(4), 4);
    }

    private static void none() {
        PileSets x = Made.withSets();
        Due.due("no blows", x.runs(0), 0);
        Due.due("no run", x.run(0, 0, 0), -4);
        x = Made.withSets(9, 9);
        Due.due("two blows", x.runs(0), 0);
        Due.due("no run of them", x.run(0, 0, 1), -4);
        x = Made.withSets(9, 9, 9);
        Due.due("three blows", x.runs(0), 1);
        x = Made.withSets(0, 0, 0, 0);
        Due.due("sets of 0", x.runs(0), 0);
    }

    private static void due(PileSets x, int run, int... want) {
        for (int what = 0; what < want.length; what++) {
            Due.due("run(0, " + run + ", " + what + ")", x.run(0, run, what), want[what]);
        }
    }

    private static void shortRuns() {
        PileSets x = Made.withSets(200, 200, 200, 150, 150, 120, 120, 120, 120, 60);
        Due.due("runs", x.runs(0), 2);
        due(x, 0, 200, 3, 100, 600);
        due(x, 1, 120, 4, 100, 480);
        Due.due("no third", x.run(0, 2, 0), -4);
    }

    private static void fromTheFirstOne() {
        PileSets x = Made.withSets(20, 21, 19, 20, 22, 21, 23, 24);
        // 22 differs from 20 by 2; 21 and 23 differ from 22 by 1, 24 by 2.
        Due.due("runs", x.runs(0), 2);
        due(x, 0, 20, 4, 100, 80);
        due(x, 1, 22, 3, 100, 66);
        x = Made.withSets(20, 21, 22, 23, 24, 25);
        Due.due("a slope", x.runs(0), 0);
        x = Made.withSets(25, 24, 23, 24, 22, 22, 22);
        Due.due("down", x.runs(0), 1);
        due(x, 0, 23, 5, 100, 113);
    }

    private static void zerosAreLeftOut() {
        PileSets x = Made.withSets(0, 7, 0, 7, 0, 0, 8, 0, 30, 0, 30, 31, 0);
        Due.due("runs", x.runs(0), 2);
        due(x, 0, 7, 3, 100, 22);
        due(x, 1, 30, 3, 100, 91);
        x = Made.withSets(1, 0, 1, 2, 0);
        Due.due("a set of 0 is no neighbour of 1", x.runs(0), 1);
        due(x, 0, 1, 3, 100, 4);
    }

    /** Short runs are left out behind the cutting: those beside them do not join. */
    private static void shortOnesCutToo() {
        PileSets x = Made.withSets(10, 10, 30, 10, 10);
        Due.due("no runs", x.runs(0), 0);
        x = Made.withSets(10, 10, 10, 30, 10, 10, 10);
        Due.due("two runs", x.runs(0), 2);
        due(x, 0, 10, 3);
        due(x, 1, 10, 3);
    }

    private static void loadsOfRuns() {
        PileSets x = Made.withSets();
        // With 9 more of the fall the set is the same, but the load is 100 + 90 / (set + 10).
        int[][] falls = {{Made.fallOf(40) + 9, Made.fallOf(40), Made.fallOf(41)},
            {Made.fallOf(20), Made.fallOf(20) + 9, Made.fallOf(20) + 9}};
        for (int[] run : falls) {
            for (int fall : run) {
                x.strike(0, fall);
            }
        }
        Due.due("runs", x.runs(0), 2);
        due(x, 0, 40, 3, 101, 121);
        due(x, 1, 20, 3, 100, 60);
        x.set(2, 0);
        Due.due("to change the loss", x.run(0, 0, 2), 101);
    }

    private static void latestOnes() {
        PileSets x = Made.withSets();
        for (int i = 0; i < 3; i++) {
            x.strike(0, Made.fallOf(30));
        }
        for (int i = 0; i < 38; i++) {
            x.strike(0, Made.fallOf(20));
        }
        // Of the 41 blows the first one is not kept any more, and two of its run are too few.
        Due.due("runs", x.runs(0), 1);
        due(x, 0, 20, 38, 100, 760);
        x.undo();
        Due.due("runs with all of the first", x.runs(0), 2);
        due(x, 0, 30, 3);
        due(x, 1, 20, 37);
    }
}

/** The edges in what the document says of load tests: promise 16. */
final class LoadEdges {
    private LoadEdges() {
    }

    static void all() {
        forces();
        held();
        heldAtEdgesOfStrata();
        pressed();
        toItsLength();
        noBlow();
        nothingChanged();
        answers();
    }

    private static void forces() {
        Words.of("holds a force (1 to 100000)");
        PileSets x = Made.with(50000);
        for (int force : new int[] {Integer.MIN_VALUE, -1, 0, 100001, Integer.MAX_VALUE}) {
            Due.due("force " + force, x.test(0, force), -1);
        }
        Due.due("nothing recorded", x.count(4), 1);
        Due.due("nothing pressed", x.count(24), 0);
        Words.of("- `force`: 1 to 100000");
        Due.due("force 1", x.test(0, 1), 0);
        Due.due("force 100000", x.test(0, 100000), 99500 / 10 + 1);
    }

    private static void held() {
        Words.of("if the force is at most r * 10 + d / 100.");
        PileSets x = Made.with(50000);
        Due.due("500 at 0", x.test(0, 500), 0);
        Due.due("501 at 0", x.test(0, 501), 1);
        Made.pressTo(x, 0, 99);
        Due.due("500 at 99", x.test(0, 500), 0);
        Due.due("501 at 99", x.test(0, 501), 1);
        Due.due("501 at 100", x.test(0, 501), 0);
        Due.due("502 at 100", x.test(0, 502), 1);
        x.stratum(0, 10000, 1);
        Due.due("11 at 101", x.test(0, 11), 0);
        Due.due("12 at 101", x.test(0, 12), 1);
        x.stratum(0, 10000, 500);
        Due.due("5001 at 102", x.test(0, 5001), 0);
        Due.due("5002 at 102", x.test(0, 5002), 1);
    }

    private static void heldAtEdgesOfStrata() {
        Words.of("A pile whose foot is at the depth d, where the resistance is r,");
        PileSets x = Made.with(50000);
        x.stratum(0, 150, 10);
        x.stratum(1, 150, 20);
        Made.pressTo(x, 0, 149);
        Due.due("101 at 149", x.test(0, 101), 0);
        Due.due("102 at 149", x.test(0, 102), 1);
        Due.due("201 at 150", x.test(0, 201), 0);
        Due.due("202 at 150", x.test(0, 202), 1);
        Made.pressTo(x, 0, 299);
        Due.due("202 at 299", x.test(0, 202), 0);
        Due.due("203 at 299", x.test(0, 203), 1);
        Due.due("20003 at 300", x.test(0, 20003), 0);
        Due.due("20004 at 300", x.test(0, 20004), 1);
        Made.pressTo(x, 0, 50000);
        Due.due("20500 at 50000", x.test(0, 20500), 0);
    }

    private static void pressed() {
        Words.of("presses it down by (force - (r * 10 + d / 100)) / 10 + 1,");
        int[][] more = {{1, 1}, {9, 1}, {10, 2}, {19, 2}, {20, 3}, {99, 10}, {100, 11}, {99500, 9951}};
        for (int[] due : more) {
            PileSets x = Made.with(50000);
            Due.due("by 500 and " + due[0], x.test(0, 500 + due[0]), due[1]);
            Due.due("foot", x.pileOf(0, 3), due[1]);
            Due.due("sum of its own", x.pileOf(0, 10), due[1]);
            Due.due("sum of all", x.count(24), due[1]);
        }
        PileSets x = Made.with(50000);
        Made.pressTo(x, 0, 250);
        Due.due("502 and 9 at 250", x.test(0, 511), 1);
        Due.due("502 and 10 at 251", x.test(0, 512), 2);
        Due.due("through the stratum, by its resistance", x.test(0, 98502), 9801);
        Due.due("in the rock", x.pileOf(0, 3), 10054);
        Due.due("by the resistance of the rock", x.test(0, 20100 + 10), 2);
    }

    private static void toItsLength() {
        Words.of("at most to its length;");
        PileSets x = Made.with(1000);
        Due.due("one short of it", x.test(0, 500 + 9989), 999);
        x.undo();
        Due.due("just to it", x.test(0, 500 + 9999), 1000);
        x.undo();
        Due.due("one more", x.test(0, 500 + 10000), 1000);
        Due.due("at its length", x.pileOf(0, 3), 1000);
        x.undo();
        Due.due("much more", x.test(0, 100000), 1000);
        Due.due("sum", x.pileOf(0, 10), 1000);
        Due.due("again", x.test(0, 100000), 0);
        Due.due("foot", x.pileOf(0, 3), 1000);
        Due.due("sum then", x.pileOf(0, 10), 1000);
        Due.due("sum of all", x.count(24), 1000);
    }

    private static void noBlow() {
        Words.of("this is no blow, and lifts nothing, but the pile is not loose behind it");
        PileSets x = Made.plain(5000, 5000, 5000);
        Made.pressTo(x, 1, 100);
        x.strike(2, 200);
        x.strike(0, 500);
        Due.due("loose", x.pileOf(1, 7), 1);
        Due.due("a test that it does not hold", x.test(1, 5000), 491);
        Due.due("not loose", x.pileOf(1, 7), 0);
        Due.due("deeper than the others", x.pileOf(1, 3), 100 - 8 - 20 + 491);
        Due.due("no lift but those of the blows", x.count(23), 8 + 20 + 20);
        Due.due("the other is loose as it was", x.pileOf(2, 7), 1);
        int[] due = {0, -4, -4};
        for (int what = 4; what <= 6; what++) {
            Due.due("no blow: pileOf(1, " + what + ")", x.pileOf(1, what), due[what - 4]);
        }
        Due.due("no set", x.pileOf(1, 8), 0);
        Due.due("none kept", x.pileOf(1, 12), 0);
        Due.due("blows", x.count(3), 2);
        Due.due("energy", x.count(20), 7000);
        Due.due("work", x.count(21), 7000);
        Due.due("sets", x.count(22), 700);
        x.strike(0, 500);
        Due.due("loose again by a lift", x.pileOf(1, 7), 1);
        Words.of("(also if it is at its length, and pressed down by 0).");
        // No call brings a loose pile to its length but by a blow or a test, so it can't be loose there before.
        PileSets y = Made.plain(1000, 5000);
        Made.pressTo(y, 0, 1000);
        Made.pressTo(y, 1, 1000);
        y.strike(1, 500);
        Due.due("lifted from its length", y.pileOf(0, 7), 1);
        Due.due("pressed back", y.test(0, 100000), 20);
        Due.due("not loose", y.pileOf(0, 7), 0);
        Due.due("pressed by 0", y.test(0, 100000), 0);
        Due.due("not loose then", y.pileOf(0, 7), 0);
    }

    private static void nothingChanged() {
        Words.of("A test that it holds changes nothing of it.");
        PileSets x = Made.plain(5000, 5000);
        x.strike(1, 200);
        x.strike(0, 500);
        long[] before = Look.at(x);
        Due.due("loose", x.pileOf(1, 7), 1);
        Due.due("held", x.test(1, 101), 0);
        Look.dueAlike("behind it", Look.at(x), before);
        Due.due("loose still", x.pileOf(1, 7), 1);
    }

    private static void answers() {
        Words.of("`int test(int pile, int force)`: Tests a pile with a force.");
        PileSets x = Made.with(5000, 5000);
        Due.due("test", x.test(1, 600), 11);
        Due.due("its foot", x.pileOf(1, 3), 11);
        Due.due("the other's", x.pileOf(0, 3), 0);
        Words.of("Returns by how much it is pressed down, 0 if it holds; INVALID_ARGUMENT if an argument is out of range.");
        Due.due("holds", x.test(1, 500), 0);
        Due.due("by 1", x.test(1, 501), 1);
        Due.due("none there", x.test(2, 501), -1);
        Due.due("none there, and no force", x.test(2, 0), -1);
    }
}

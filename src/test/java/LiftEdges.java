/** The edges in what the document says of piles and of lifting: promises 8 and 9. */
final class LiftEdges {
    private static final int FAR = Integer.MAX_VALUE;
    private static final int NEAR_END = Integer.MIN_VALUE;

    private LiftEdges() {
    }

    static void all() {
        tenPiles();
        places();
        lengths();
        onePlace();
        properties();
        propertiesThatAreNot();
        nearness();
        reaches();
        feetThatAreLifted();
        footBehindTheBlow();
        amounts();
        upToZero();
        sums();
        eachOther();
        loose();
        looseWithoutABlow();
        numberUsedAgain();
        lastLoad();
        allowedLoad();
    }

    private static void tenPiles() {
        Words.of("There are at most 10 piles, numbered from 0.");
        PileSets x = new PileSets();
        for (int i = 0; i < 10; i++) {
            Due.due("pile " + i, x.pile(i, 2 * i, 1000 + i), i);
        }
        Due.due("an eleventh", x.pile(10, 20, 1000), -3);
        Due.due("ten stay", x.count(1), 10);
        Due.due("the tenth", x.pileOf(9, 2), 1009);
        Due.due("no eleventh", x.pileOf(10, 2), -1);
        x.undo();
        Due.due("one less", x.count(1), 9);
        Due.due("the tenth again", x.pile(10, 20, 1000), 9);
        Words.of("Returns the number of the pile; INVALID_ARGUMENT if an argument is out of range; "
            + "NOT_POSSIBLE if one stands there; LIMIT_REACHED if there are 10.");
        Due.due("an eleventh", x.pile(11, 20, 1000), -3);
        Due.due("an eleventh where one stands", x.pile(10, 20, 1000), -2);
        Due.due("an eleventh out of range", x.pile(20001, 20, 1000), -1);
        Due.due("where one stands, out of range", x.pile(10, 20, 999), -1);
    }

    private static void places() {
        Words.of("A pile stands at a place (x, y), 0 to 20000 each,");
        PileSets x = new PileSets();
        for (int place : new int[] {NEAR_END, -1, 20001, FAR}) {
            Due.due("x " + place, x.pile(place, 5, 1000), -1);
            Due.due("y " + place, x.pile(5, place, 1000), -1);
        }
        Due.due("none stands", x.count(1), 0);
        int[][] corners = {{0, 0}, {20000, 0}, {0, 20000}, {20000, 20000}};
        for (int i = 0; i < 4; i++) {
            Due.due("corner " + i, x.pile(corners[i][0], corners[i][1], 1000), i);
            Due.due("its x", x.pileOf(i, 0), corners[i][0]);
            Due.due("its y", x.pileOf(i, 1), corners[i][1]);
        }
        Words.of("`int pile(int x, int y, int length)`: Places a pile.\n\n- `x`: 0 to 20000\n- `y`: 0 to 20000\n");
        Due.due("x 1", x.pile(1, 5, 1000), 4);
        Due.due("x 19999", x.pile(19999, 5, 1000), 5);
        Due.due("y 1", x.pile(5, 1, 1000), 6);
        Due.due("y 19999", x.pile(5, 19999, 1000), 7);
    }

    private static void lengths() {
        Words.of("A pile has a length (1000 to 50000);");
        PileSets x = new PileSets();
        for (int length : new int[] {NEAR_END, 0, 999, 50001, FAR}) {
            Due.due("length " + length, x.pile(0, 0, length), -1);
        }
        Words.of("- `length`: 1000 to 50000");
        int[] lengths = {1000, 1001, 49999, 50000};
        for (int i = 0; i < lengths.length; i++) {
            Due.due("length " + lengths[i], x.pile(i, 0, lengths[i]), i);
            Due.due("it is", x.pileOf(i, 2), lengths[i]);
        }
    }

    private static void onePlace() {
        Words.of("no two at the same place.");
        PileSets x = new PileSets();
        x.pile(300, 400, 1000);
        x.pile(500, 600, 1000);
        Due.due("that of the first", x.pile(300, 400, 2000), -2);
        Due.due("that of the last", x.pile(500, 600, 2000), -2);
        Due.due("two stay", x.count(1), 2);
        Due.due("the first keeps its length", x.pileOf(0, 2), 1000);
        Due.due("the same x", x.pile(300, 401, 1000), 2);
        Due.due("the same y", x.pile(301, 400, 1000), 3);
        Due.due("x of one, y of another", x.pile(300, 600, 1000), 4);
        Due.due("x and y the other way", x.pile(400, 300, 1000), 5);
        x.undo();
        Due.due("where one stood", x.pile(400, 300, 1000), 5);
    }

    private static void properties() {
        Words.of("- `what`: 0: x; 1: y; 2: its length; 3: the depth of its foot; 4: its blows; 5: its load; "
            + "6: its allowed load; 7: 1 if it is loose, otherwise 0; 8: the sum of the sets of all its blows; "
            + "9: the sum of its lifts; 10: what tests pressed it down; 11: other piles near it; 12: its kept blows");
        PileSets x = Made.plain(9000);
        x.set(2, 10);
        x.pile(700, 800, 5000);
        Made.pressTo(x, 1, 150);
        x.strike(1, 110);
        x.strike(1, 210);
        x.strike(0, 1000);
        // 150 by the test, 100 and 200 by blows, and a lift of 500 * 4 / 100.
        int[] due = {700, 800, 5000, 430, 2, 10, 2, 1, 300, 20, 150, 1, 2};
        for (int what = 0; what <= 12; what++) {
            Due.due("pileOf(1, " + what + ")", x.pileOf(1, what), due[what]);
        }
        Words.of("`int pileOf(int pile, int what)`: Returns a property of a pile.");
        int[] other = {0, 0, 9000, 500, 1, 19, 9, 0, 500, 0, 0, 1, 1};
        for (int what = 0; what <= 12; what++) {
            Due.due("pileOf(0, " + what + ")", x.pileOf(0, what), other[what]);
        }
        for (int what : new int[] {NEAR_END, -1, 13, FAR}) {
            Due.due("what " + what, x.pileOf(0, what), -1);
        }
    }

    private static void propertiesThatAreNot() {
        Words.of("Returns the property; INVALID_ARGUMENT if an argument is out of range; "
            + "NOT_FOUND for 5 and 6 if it has no blow.");
        PileSets x = Made.plain(5000);
        Due.due("its load", x.pileOf(0, 5), -4);
        Due.due("its allowed load", x.pileOf(0, 6), -4);
        int[] due = {0, 0, 5000, 0, 0, -4, -4, 0, 0, 0, 0, 0, 0};
        for (int what = 0; what <= 12; what++) {
            Due.due("pileOf(0, " + what + ")", x.pileOf(0, what), due[what]);
        }
        Due.due("of none there", x.pileOf(1, 5), -1);
        x.test(0, 50000);
        Due.due("its load behind a test", x.pileOf(0, 5), -4);
        x.stratum(0, 100, 500);
        x.set(2, 50);
        x.strike(0, 100);
        Due.due("its load behind a blow of 0", x.pileOf(0, 5), 20);
        Due.due("its allowed load", x.pileOf(0, 6), 10);
        x.undo();
        Due.due("its load behind undo", x.pileOf(0, 5), -4);
        Due.due("its allowed load behind undo", x.pileOf(0, 6), -4);
    }

    private static void nearness() {
        Words.of("Two piles are near each other if both the difference of their x and that of their y are at most the reach.");
        PileSets x = new PileSets();
        x.set(4, 100);
        int[][] places = {{1000, 1000}, {1100, 1000}, {1000, 1100}, {900, 1000}, {1000, 900}, {1100, 900}, {1101, 1000},
            {1000, 1101}, {899, 1000}, {1000, 899}};
        for (int[] place : places) {
            x.pile(place[0], place[1], 1000);
        }
        // The latter four are 101 away from the first one, in one direction.
        int[] due = {5, 5, 4, 4, 5, 5, 2, 1, 1, 2};
        for (int i = 0; i < due.length; i++) {
            Due.due("near " + i, x.pileOf(i, 11), due[i]);
        }
        x.set(4, 101);
        Due.due("with one more of reach", x.pileOf(0, 11), 9);
        x.set(4, 99);
        Due.due("with one less of reach", x.pileOf(0, 11), 0);
        x.set(4, 1);
        Due.due("1 away", x.pileOf(1, 11), 1);
        x.set(4, 0);
        Due.due("1 away with no reach", x.pileOf(1, 11), 0);
    }

    private static void reaches() {
        Words.of("each other pile near it,");
        for (int away : new int[] {10000, 10001}) {
            for (int inX = 0; inX < 2; inX++) {
                PileSets x = Made.plain(5000);
                x.pile(inX == 1 ? away : 0, inX == 1 ? 0 : away, 5000);
                x.set(4, 10000);
                Made.pressTo(x, 1, 50);
                x.strike(0, 500);
                Due.due("lift at " + away, x.pileOf(1, 9), away == 10000 ? 20 : 0);
                Due.due("near at " + away, x.pileOf(0, 11), away == 10000 ? 1 : 0);
            }
        }
        PileSets x = Made.plain(5000, 5000);
        x.set(4, 0);
        Made.pressTo(x, 1, 50);
        x.strike(0, 500);
        Due.due("no lift with no reach", x.pileOf(1, 9), 0);
        x.set(4, 1);
        x.strike(0, 500);
        Due.due("a lift with a reach of 1", x.pileOf(1, 9), 20);
        Due.due("none of itself", x.pileOf(0, 9), 0);
    }

    private static void feetThatAreLifted() {
        Words.of("whose foot is at a depth above 0 and less deep than that of the struck pile behind the blow,");
        int[][] feetAndLifts = {{0, 0}, {1, 1}, {2, 2}, {198, 20}, {199, 20}, {200, 0}, {201, 0}, {4000, 0}};
        for (int[] due : feetAndLifts) {
            PileSets x = Made.plain(5000, 5000);
            x.set(5, 10);
            Made.pressTo(x, 1, due[0]);
            x.strike(0, 200);
            Due.due("lift from " + due[0], x.pileOf(1, 9), due[1]);
            Due.due("foot from " + due[0], x.pileOf(1, 3), due[0] - due[1]);
            Due.due("loose from " + due[0], x.pileOf(1, 7), due[1] > 0 ? 1 : 0);
            Due.due("the struck one is not lifted", x.pileOf(0, 3), 200);
        }
    }

    private static void footBehindTheBlow() {
        Words.of("When a blow has driven a pile by a set s,");
        PileSets x = Made.plain(5000, 5000);
        Made.pressTo(x, 0, 100);
        Made.pressTo(x, 1, 250);
        x.strike(0, 150);
        Due.due("as deep behind the blow", x.pileOf(1, 9), 0);
        x.undo();
        x.strike(0, 151);
        Due.due("deeper behind the blow alone", x.pileOf(1, 9), 6);
        x.undo();
        x.set(2, 50);
        x.stratum(0, 10000, 500);
        Made.pressTo(x, 0, 300);
        Due.due("a set of 0", x.strike(0, 100), 0);
        Due.due("lifts by 0", x.pileOf(1, 9), 0);
        Due.due("which makes not loose", x.pileOf(1, 7), 0);
    }

    private static void amounts() {
        Words.of("is lifted by s * lift / 100,");
        int[][] due = {{100, 0, 0}, {500, 0, 0}, {100, 1, 1}, {199, 1, 1}, {200, 1, 2}, {100, 50, 50}, {101, 50, 50},
            {500, 50, 250}, {333, 7, 23}, {3000, 4, 20}};
        for (int[] one : due) {
            PileSets x = Made.plain(5000, 5000);
            x.set(5, one[1]);
            Made.pressTo(x, 0, 2000);
            Made.pressTo(x, 1, 1000);
            x.strike(0, one[0]);
            Due.due("by " + one[0] + " with " + one[1], x.pileOf(1, 9), one[2]);
        }
        PileSets x = Made.plain(5000, 5000);
        Made.pressTo(x, 0, 4900);
        Made.pressTo(x, 1, 1000);
        x.strike(0, 500);
        Due.due("by the set of what is left", x.pileOf(1, 9), 4);
    }

    private static void upToZero() {
        Words.of("but at most up to the depth 0;");
        int[][] due = {{19, 0, 19}, {20, 0, 20}, {21, 1, 20}};
        for (int[] one : due) {
            PileSets x = Made.plain(5000, 5000);
            Made.pressTo(x, 1, one[0]);
            x.strike(0, 500);
            Due.due("foot from " + one[0], x.pileOf(1, 3), one[1]);
            Due.due("lift from " + one[0], x.pileOf(1, 9), one[2]);
            x.strike(0, 500);
            Due.due("foot then", x.pileOf(1, 3), 0);
            Due.due("lift then", x.pileOf(1, 9), one[0]);
            x.strike(0, 500);
            Due.due("no more lift", x.pileOf(1, 9), one[0]);
        }
    }

    private static void sums() {
        Words.of("sums of lifts have what it is lifted by.");
        PileSets x = Made.plain(5000, 5000, 5000, 5000);
        Made.pressTo(x, 1, 5);
        Made.pressTo(x, 2, 300);
        Made.pressTo(x, 3, 600);
        x.strike(0, 500);
        Due.due("of the first lifted", x.pileOf(1, 9), 5);
        Due.due("of the second lifted", x.pileOf(2, 9), 20);
        Due.due("of one that is deeper", x.pileOf(3, 9), 0);
        Due.due("of all", x.count(23), 25);
        x.strike(0, 500);
        Due.due("of the first then", x.pileOf(1, 9), 5);
        Due.due("of the second then", x.pileOf(2, 9), 40);
        Due.due("of the deeper one then", x.pileOf(3, 9), 20);
        Due.due("of all then", x.count(23), 65);
        Due.due("of sets, which lifts do not lessen", x.count(22), 1000);
        x.strike(2, 500);
        Due.due("a blow does not empty it", x.pileOf(2, 9), 40);
    }

    private static void eachOther() {
        Words.of("each other pile near it,");
        PileSets x = new PileSets();
        for (int i = 0; i < 10; i++) {
            x.pile(i, 0, 5000);
        }
        for (int i = 1; i < 10; i++) {
            Made.pressTo(x, i, 100);
        }
        Due.due("the first of ten", x.strike(0, 1000), 277);
        for (int i = 1; i < 10; i++) {
            Due.due("lift of " + i, x.pileOf(i, 9), 11);
            Due.due("loose " + i, x.pileOf(i, 7), 1);
        }
        Due.due("all lifts", x.count(23), 99);
        Due.due("all loose ones", x.count(2), 9);
        Due.due("the last of ten", x.strike(9, 1000), 277);
        Due.due("it is loose no more", x.pileOf(9, 7), 0);
        Due.due("but the first one is", x.pileOf(0, 7), 1);
        Due.due("all loose ones then", x.count(2), 9);
        Due.due("lift of the eighth", x.pileOf(8, 9), 22);
        Due.due("lift of the first", x.pileOf(0, 9), 11);
    }

    private static void loose() {
        Words.of("A pile that has been lifted by at least 1 since its last blow (or ever, if it has none) is loose.");
        PileSets x = Made.plain(20000, 20000);
        x.strike(0, 300);
        Made.pressTo(x, 1, 1000);
        x.set(5, 0);
        x.strike(1, 500);
        Due.due("lifted by 0", x.pileOf(0, 7), 0);
        x.set(5, 1);
        x.set(2, 1);
        Due.due("a set that is too small", x.strike(1, 100), 99);
        Due.due("lifted by 99 / 100", x.pileOf(0, 7), 0);
        Due.due("and again", x.strike(1, 100) + x.pileOf(0, 7), 99);
        x.set(2, 0);
        Due.due("a set that is enough", x.strike(1, 100), 100);
        Due.due("lifted by 1", x.pileOf(0, 7), 1);
        Due.due("loose piles", x.count(2), 1);
        x.strike(1, 100);
        Due.due("lifted by 1 more", x.pileOf(0, 7), 1);
        Due.due("a blow on the other", x.pileOf(1, 7), 0);
        x.set(2, 50);
        x.stratum(0, 20000, 500);
        Due.due("a blow, though of 0", x.strike(0, 100), 0);
        Due.due("not since its last blow", x.pileOf(0, 7), 0);
        Due.due("no loose piles", x.count(2), 0);
    }

    private static void looseWithoutABlow() {
        Words.of("(or ever, if it has none) is loose.");
        PileSets x = Made.plain(5000, 5000);
        Made.pressTo(x, 1, 1);
        Due.due("pressed", x.pileOf(1, 7), 0);
        x.strike(0, 100);
        Due.due("lifted by 1", x.pileOf(1, 7), 1);
        Due.due("no blow", x.pileOf(1, 4), 0);
        for (int i = 0; i < 8; i++) {
            x.strike(0, 100);
        }
        Due.due("still", x.pileOf(1, 7), 1);
        x.strike(1, 100);
        Due.due("behind its first blow", x.pileOf(1, 7), 0);
    }

    /** A pile whose number another one had, until that was undone, has nothing of it. */
    private static void numberUsedAgain() {
        Words.of("its foot is initially at the depth 0,");
        PileSets x = Made.plain(5000);
        Made.pressTo(x, 0, 300);
        x.pile(1, 0, 5000);
        x.test(1, 500);
        x.strike(1, 200);
        x.strike(0, 500);
        Due.due("loose", x.pileOf(1, 7), 1);
        for (int left = 3; left >= 0; left--) {
            Due.due("undo", x.undo(), left);
        }
        Due.due("the number again", x.pile(7, 8, 3000), 1);
        int[] due = {7, 8, 3000, 0, 0, -4, -4, 0, 0, 0, 0, 1, 0};
        for (int what = 0; what < due.length; what++) {
            Due.due("pileOf(1, " + what + ")", x.pileOf(1, what), due[what]);
        }
        Due.due("none kept", x.blow(1, 0, 0), -4);
        Due.due("no run", x.runs(1), 0);
        x.strike(1, 150);
        Due.due("its first set", x.blow(1, 0, 0), 150);
        Due.due("its blows", x.pileOf(1, 4), 1);
        Due.due("its kept blows", x.pileOf(1, 12), 1);
    }

    private static void lastLoad() {
        Words.of("The load of a pile is that of its last blow.");
        PileSets x = Made.plain(50000);
        x.set(2, 10);
        x.strike(0, 3000);
        Due.due("of one", x.pileOf(0, 5), 30000 / 510);
        x.strike(0, 100);
        Due.due("of the last, which is less", x.pileOf(0, 5), 10);
        x.strike(0, 1000);
        Due.due("of the last, which is more", x.pileOf(0, 5), 19);
        x.set(2, 0);
        x.test(0, 90000);
        Due.due("a setting or a test is no blow", x.pileOf(0, 5), 19);
        x.stratum(0, 20000, 500);
        x.set(2, 50);
        x.strike(0, 100);
        Due.due("of the last, with no set", x.pileOf(0, 5), 20);
        Due.due("the same as is kept", x.blow(0, 0, 1), 20);
    }

    private static void allowedLoad() {
        Words.of("The allowed load is load * 100 / safety, and a half of this if the pile is loose.");
        PileSets x = Made.plain(50000, 50000);
        x.set(2, 10);
        x.strike(0, 1500);
        Due.due("load", x.pileOf(0, 5), 29);
        int[][] safeties = {{100, 29, 14}, {145, 20, 10}, {200, 14, 7}, {290, 10, 5}, {300, 9, 4},
            {386, 7, 3}, {387, 7, 3}, {500, 5, 2}};
        for (int[] safety : safeties) {
            x.set(3, safety[0]);
            Due.due("with " + safety[0], x.pileOf(0, 6), safety[1]);
        }
        Made.pressTo(x, 1, 1000);
        x.strike(1, 500);
        Due.due("loose", x.pileOf(0, 7), 1);
        for (int[] safety : safeties) {
            x.set(3, safety[0]);
            Due.due("a half with " + safety[0], x.pileOf(0, 6), safety[2]);
        }
        PileSets y = Made.with(5000);
        y.set(0, 100);
        y.set(1, 10);
        y.set(2, 0);
        y.strike(0, 100);
        y.set(3, 100);
        Due.due("the greatest", y.pileOf(0, 6), 100000);
        y.set(3, 500);
        Due.due("of the greatest, the least", y.pileOf(0, 6), 20000);
    }
}

/** Promises 1 to 7: a new object, stratum, cut, ground, at, set, count. */
final class GroundTest {
    private static final int[] NUMBERS = {0, 1, 2, 3, 4, 5, 6, 10, 11, 12, 13, 14, 15, 20, 21, 22, 23, 24};
    private static final int[] LEAST = {100, 10, 0, 100, 0, 0};
    private static final int[] MOST = {10000, 100, 50, 500, 10000, 50};
    private static final int[] FIRST = {2000, 70, 3, 200, 3000, 4};

    public static void main(String[] args) {
        newObject();
        stratumEdges();
        stratumLimit();
        stratumIsAChange();
        cuts();
        properties();
        depths();
        pilesStayWhereTheyAre();
        settings();
        numbers();
        Due.end("GroundTest");
    }

    private static void newObject() {
        PileSets x = new PileSets();
        int[] due = {1, 0, 0, 0, 0, 0, 0, 2000, 70, 3, 200, 3000, 4, 0, 0, 0, 0, 0};
        for (int i = 0; i < NUMBERS.length; i++) {
            Due.due("new: count(" + NUMBERS[i] + ")", x.count(NUMBERS[i]), due[i]);
        }
        Due.due("new: thickness", x.ground(0, 0), 10000);
        Due.due("new: resistance", x.ground(0, 1), 50);
        Due.due("new: top", x.ground(0, 2), 0);
        Due.due("new: feet", x.ground(0, 3), 0);
        Due.due("new: pileOf", x.pileOf(0, 0), -1);
        Due.due("new: undo", x.undo(), -2);
        PileSets other = new PileSets();
        other.stratum(0, 100, 1);
        Due.due("objects are apart", x.ground(0, 0), 10000);
    }

    private static void stratumEdges() {
        PileSets x = new PileSets();
        Due.due("stratum -1", x.stratum(-1, 1000, 10), -1);
        Due.due("stratum 2 of 1", x.stratum(2, 1000, 10), -1);
        Due.due("thickness 99", x.stratum(0, 99, 10), -1);
        Due.due("thickness 20001", x.stratum(0, 20001, 10), -1);
        Due.due("resistance 0", x.stratum(0, 1000, 0), -1);
        Due.due("resistance 501", x.stratum(0, 1000, 501), -1);
        Due.due("far below", x.stratum(Integer.MIN_VALUE, 1000, 10), -1);
        Due.due("far above", x.stratum(Integer.MAX_VALUE, 1000, 10), -1);
        Due.due("nothing changed", x.ground(0, 0), 10000);
        Due.due("nothing recorded", x.count(4), 0);
        Due.due("least", x.stratum(0, 100, 1), 1);
        Due.due("least thickness", x.ground(0, 0), 100);
        Due.due("least resistance", x.ground(0, 1), 1);
        Due.due("most", x.stratum(1, 20000, 500), 2);
        Due.due("most thickness", x.ground(1, 0), 20000);
        Due.due("most resistance", x.ground(1, 1), 500);
        Due.due("the first one again", x.stratum(0, 300, 7), 2);
        Due.due("its thickness", x.ground(0, 0), 300);
        Due.due("its resistance", x.ground(0, 1), 7);
        Due.due("the second one has moved", x.ground(1, 2), 300);
        Due.due("the second one stays as thick", x.ground(1, 0), 20000);
    }

    private static void stratumLimit() {
        PileSets x = new PileSets();
        for (int i = 1; i < 6; i++) {
            Due.due("stratum " + i, x.stratum(i, 1000 + i, 10 + i), i + 1);
        }
        Due.due("a seventh", x.stratum(6, 1000, 10), -3);
        Due.due("a seventh too thin", x.stratum(6, 99, 10), -1);
        Due.due("a seventh too hard", x.stratum(6, 1000, 501), -1);
        Due.due("an eighth", x.stratum(7, 1000, 10), -1);
        Due.due("six strata", x.count(0), 6);
        Due.due("the sixth one again", x.stratum(5, 2000, 20), 6);
        Due.due("its top", x.ground(5, 2), 10000 + 1001 + 1002 + 1003 + 1004);
        for (int i = 1; i < 5; i++) {
            Due.due("thickness of " + i, x.ground(i, 0), 1000 + i);
            Due.due("resistance of " + i, x.ground(i, 1), 10 + i);
        }
    }

    private static void stratumIsAChange() {
        PileSets x = new PileSets();
        x.stratum(0, 10000, 50);
        Due.due("a stratum as it was is a change", x.count(4), 1);
        x.stratum(1, 500, 60);
        x.stratum(2, 99, 60);
        Due.due("an error is none", x.count(4), 2);
        Due.due("undo of a stratum", x.undo(), 1);
        Due.due("one stratum", x.count(0), 1);
        Due.due("no second one", x.ground(1, 0), -1);
    }

    private static void cuts() {
        PileSets x = new PileSets();
        Due.due("cut of one", x.cut(), -2);
        Due.due("no change", x.count(4), 0);
        x.stratum(1, 500, 60);
        x.stratum(2, 700, 80);
        Due.due("cut of three", x.cut(), 2);
        Due.due("a change", x.count(4), 3);
        Due.due("two strata", x.count(0), 2);
        Due.due("the third one is gone", x.ground(2, 0), -1);
        Due.due("it is rock there", x.at(10500), -4);
        Due.due("cut of two", x.cut(), 1);
        Due.due("cut of one again", x.cut(), -2);
        Due.due("undo of a cut", x.undo(), 3);
        Due.due("two again", x.count(0), 2);
        Due.due("thickness as before", x.ground(1, 0), 500);
        Due.due("resistance as before", x.ground(1, 1), 60);
        x.cut();
        Due.due("one added anew", x.stratum(1, 900, 5), 2);
        Due.due("is the new one", x.ground(1, 0), 900);
    }

    private static void properties() {
        PileSets x = new PileSets();
        x.stratum(0, 2000, 40);
        x.stratum(1, 3000, 90);
        int[][] due = {{2000, 40, 0}, {3000, 90, 2000}};
        for (int stratum = 0; stratum < 2; stratum++) {
            for (int what = 0; what < 3; what++) {
                Due.due("ground(" + stratum + ", " + what + ")", x.ground(stratum, what), due[stratum][what]);
            }
        }
        Due.due("ground(-1, 0)", x.ground(-1, 0), -1);
        Due.due("ground(2, 0)", x.ground(2, 0), -1);
        Due.due("ground(0, -1)", x.ground(0, -1), -1);
        Due.due("ground(0, 4)", x.ground(0, 4), -1);
        Due.due("ground of the rock", x.ground(2, 3), -1);
        x.pile(0, 0, 9000);
        x.pile(1, 0, 9000);
        x.pile(2, 0, 9000);
        Made.pressTo(x, 1, 1999);
        Made.pressTo(x, 2, 2000);
        Due.due("feet in the first", x.ground(0, 3), 2);
        Due.due("feet in the second", x.ground(1, 3), 1);
        Made.pressTo(x, 1, 4999);
        Made.pressTo(x, 2, 5000);
        Due.due("feet in the first then", x.ground(0, 3), 1);
        Due.due("feet in the second then", x.ground(1, 3), 1);
    }

    private static void depths() {
        PileSets x = new PileSets();
        x.stratum(0, 100, 40);
        x.stratum(1, 250, 90);
        Due.due("at(-1)", x.at(-1), -1);
        Due.due("at(0)", x.at(0), 0);
        Due.due("at(99)", x.at(99), 0);
        Due.due("at(100)", x.at(100), 1);
        Due.due("at(349)", x.at(349), 1);
        Due.due("at(350)", x.at(350), -4);
        Due.due("at(200000)", x.at(200000), -4);
        Due.due("at(200001)", x.at(200001), -1);
        for (int i = 2; i < 6; i++) {
            x.stratum(i, 20000, 10);
        }
        Due.due("at the end of the last one", x.at(350 + 80000 - 1), 5);
        Due.due("at the rock", x.at(350 + 80000), -4);
    }

    private static void pilesStayWhereTheyAre() {
        PileSets x = new PileSets();
        x.pile(0, 0, 5000);
        x.strike(0, 1000);
        Due.due("foot", x.pileOf(0, 3), 277);
        x.stratum(0, 100, 500);
        Due.due("foot then", x.pileOf(0, 3), 277);
        Due.due("now it stands in rock", x.ground(0, 3), 0);
        Due.due("where a blow has this set", x.would(0, 3000), 18);
        x.stratum(1, 1000, 10);
        Due.due("and then in a stratum", x.ground(1, 3), 1);
        Due.due("with this set", x.would(0, 100), 137);
    }

    private static void settings() {
        for (int what = 0; what < 6; what++) {
            PileSets x = new PileSets();
            String name = "setting " + what;
            Due.due(name + " too small", x.set(what, LEAST[what] - 1), -1);
            Due.due(name + " too large", x.set(what, MOST[what] + 1), -1);
            Due.due(name + " far below", x.set(what, Integer.MIN_VALUE), -1);
            Due.due(name + " far above", x.set(what, Integer.MAX_VALUE), -1);
            Due.due(name + " is as it was", x.count(10 + what), FIRST[what]);
            Due.due(name + " errors are no changes", x.count(4), 0);
            Due.due(name + " least", x.set(what, LEAST[what]), FIRST[what]);
            Due.due(name + " is least", x.count(10 + what), LEAST[what]);
            Due.due(name + " most", x.set(what, MOST[what]), LEAST[what]);
            Due.due(name + " is most", x.count(10 + what), MOST[what]);
            for (int other = 0; other < 6; other++) {
                if (other != what) {
                    Due.due(name + " leaves " + other, x.count(10 + other), FIRST[other]);
                }
            }
            Due.due(name + " changes", x.count(4), 2);
            Due.due(name + " the same value", x.set(what, MOST[what]), MOST[what]);
            Due.due(name + " is a change too", x.count(4), 3);
            x.undo();
            x.undo();
            Due.due(name + " undone", x.count(10 + what), LEAST[what]);
            x.undo();
            Due.due(name + " undone again", x.count(10 + what), FIRST[what]);
        }
        PileSets x = new PileSets();
        Due.due("setting -1", x.set(-1, 100), -1);
        Due.due("setting 6", x.set(6, 100), -1);
        Due.due("no change", x.count(4), 0);
    }

    private static void numbers() {
        PileSets x = new PileSets();
        int[] none = {-1, 7, 8, 9, 16, 17, 18, 19, 25, 26, 100, Integer.MIN_VALUE, Integer.MIN_VALUE + 10,
            Integer.MAX_VALUE};
        for (int what : none) {
            Due.due("count(" + what + ")", x.count(what), -1);
        }
        x.set(5, 50);
        x.pile(0, 0, 5000);
        x.pile(10, 10, 5000);
        x.pile(20, 20, 5000);
        x.strike(0, 500);
        x.strike(1, 1000);
        x.test(2, 520);
        x.type('a');
        x.type('b');
        // Set 137 with the energy 7000; set 277 with 14000, which lifts the first one by 137, not by 138.
        long[] due = {1, 3, 1, 2, 4, 2, 280, 2000, 70, 3, 200, 3000, 50, 21000, 137 * 50 + 277 * 50, 414, 137, 3};
        for (int i = 0; i < NUMBERS.length; i++) {
            Due.due("count(" + NUMBERS[i] + ")", x.count(NUMBERS[i]), due[i]);
        }
        Due.due("to ask is no change", x.count(4), 4);
        bigSums();
    }

    private static void bigSums() {
        PileSets x = new PileSets();
        x.stratum(0, 20000, 500);
        x.set(0, 10000);
        x.set(1, 100);
        for (int i = 0; i < 2; i++) {
            x.pile(i * 10000, 0, 50000);
            for (int k = 0; k < 110; k++) {
                x.drive(i, 3000, 0, 100);
            }
        }
        long blows = x.pileOf(0, 4) + x.pileOf(1, 4);
        Due.due("blows", x.count(3), blows);
        Due.due("energy", x.count(20), blows * 300000);
        // 40 blows of 500 in the stratum, then 147 each in the rock (300000 / 2000 - 3).
        long inRock = 30000;
        Due.due("sets", x.count(22), 100000);
        Due.due("work", x.count(21), 2 * (20000L * 500 + inRock * 2000));
        Due.due("depths", x.count(6), 100000);
    }
}

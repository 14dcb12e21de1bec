/** The edges in what the document says of the ground: promises 1 to 5. */
final class GroundEdges {
    private static final int FAR = Integer.MAX_VALUE;
    private static final int NEAR_END = Integer.MIN_VALUE;

    private GroundEdges() {
    }

    static void all() {
        firstGround();
        fewestAndMost();
        numbering();
        rangesOfOne();
        rangesOfAnAddedOne();
        setOrAdded();
        rock();
        whereADepthLies();
        whereAFootLies();
        pilesStay();
        cutting();
        properties();
        depths();
    }

    private static void firstGround() {
        Words.of("At first there is one stratum, 10000 thick with the resistance 50.");
        PileSets x = new PileSets();
        Due.due("thickness", x.ground(0, 0), 10000);
        Due.due("resistance", x.ground(0, 1), 50);
        Due.due("begin", x.ground(0, 2), 0);
        Due.due("a second one", x.ground(1, 0), -1);
        Words.of("`PileSets()`: Creates a ground of one stratum without piles.");
        Due.due("strata", x.count(0), 1);
        Due.due("piles", x.count(1), 0);
        Due.due("pile 0", x.pileOf(0, 0), -1);
        for (int what : new int[] {2, 3, 4, 5, 6, 20, 21, 22, 23, 24}) {
            Due.due("count(" + what + ")", x.count(what), 0);
        }
        x.stratum(0, 100, 1);
        x.pile(0, 0, 1000);
        Due.due("an object of its own", new PileSets().ground(0, 0), 10000);
        Due.due("with no piles", new PileSets().count(1), 0);
    }

    private static void fewestAndMost() {
        Words.of("There are 1 to 6 strata");
        PileSets x = new PileSets();
        Due.due("cut of the only one", x.cut(), -2);
        Due.due("it stays", x.count(0), 1);
        for (int k = 1; k < 6; k++) {
            Due.due("stratum " + k, x.stratum(k, 100 + k, 1 + k), k + 1);
        }
        Due.due("a seventh", x.stratum(6, 100, 1), -3);
        Due.due("six stay", x.count(0), 6);
        Due.due("the sixth one", x.ground(5, 0), 105);
        Due.due("no seventh", x.ground(6, 0), -1);
        for (int k = 5; k > 0; k--) {
            Due.due("cut of " + (k + 1), x.cut(), k);
        }
        Due.due("cut of the first one", x.cut(), -2);
        Words.of("LIMIT_REACHED if there would be 7.");
        for (int k = 1; k < 6; k++) {
            Due.due("again up to six", x.stratum(k, 20000, 500), k + 1);
        }
        Due.due("seven", x.stratum(6, 20000, 500), -3);
        Due.due("the sixth one set anew is no seventh", x.stratum(5, 100, 1), 6);
        Due.due("a seventh out of range", x.stratum(6, 20001, 500), -1);
    }

    private static void numbering() {
        Words.of("numbered from 0 from above");
        PileSets x = new PileSets();
        x.stratum(0, 300, 7);
        x.stratum(1, 200, 8);
        x.stratum(2, 100, 9);
        Due.due("the uppermost begins", x.ground(0, 2), 0);
        Due.due("the next begins", x.ground(1, 2), 300);
        Due.due("the third begins", x.ground(2, 2), 500);
        Due.due("no fourth", x.ground(3, 2), -1);
        Due.due("at the top", x.at(0), 0);
        Due.due("the deepest", x.at(599), 2);
    }

    private static void rangesOfOne() {
        Words.of("a stratum has a thickness (100 to 20000) and a resistance (1 to 500).");
        PileSets x = new PileSets();
        for (int thickness : new int[] {NEAR_END, -100, 0, 99, 20001, FAR}) {
            Due.due("thickness " + thickness, x.stratum(0, thickness, 50), -1);
            Due.due("it stays", x.ground(0, 0), 10000);
        }
        for (int resistance : new int[] {NEAR_END, -1, 0, 501, FAR}) {
            Due.due("resistance " + resistance, x.stratum(0, 1000, resistance), -1);
            Due.due("it stays", x.ground(0, 1), 50);
        }
        Due.due("none recorded", x.count(4), 0);
        for (int thickness : new int[] {100, 101, 19999, 20000}) {
            Due.due("thickness " + thickness, x.stratum(0, thickness, 50), 1);
            Due.due("it is", x.ground(0, 0), thickness);
        }
        for (int resistance : new int[] {1, 2, 499, 500}) {
            Due.due("resistance " + resistance, x.stratum(0, 1000, resistance), 1);
            Due.due("it is", x.ground(0, 1), resistance);
        }
    }

    private static void rangesOfAnAddedOne() {
        Words.of("- `thickness`: 100 to 20000");
        PileSets x = new PileSets();
        Due.due("99", x.stratum(1, 99, 50), -1);
        Due.due("20001", x.stratum(1, 20001, 50), -1);
        Due.due("100", x.stratum(1, 100, 50), 2);
        Due.due("20000", x.stratum(2, 20000, 50), 3);
        Due.due("is 100", x.ground(1, 0), 100);
        Due.due("is 20000", x.ground(2, 0), 20000);
        Words.of("- `resistance`: 1 to 500");
        Due.due("0", x.stratum(3, 100, 0), -1);
        Due.due("501", x.stratum(3, 100, 501), -1);
        Due.due("1", x.stratum(3, 100, 1), 4);
        Due.due("500", x.stratum(4, 100, 500), 5);
        Due.due("is 1", x.ground(3, 1), 1);
        Due.due("is 500", x.ground(4, 1), 500);
    }

    private static void setOrAdded() {
        Words.of("- `stratum`: number of a stratum, or the number of strata to add one");
        PileSets x = new PileSets();
        for (int stratum : new int[] {NEAR_END, -1, 2, 6, 7, FAR}) {
            Due.due("stratum " + stratum + " of one", x.stratum(stratum, 1000, 9), -1);
        }
        Words.of("Sets a stratum, or adds one below the last one.");
        Due.due("set", x.stratum(0, 1000, 9), 1);
        Due.due("it is set", x.ground(0, 0), 1000);
        Due.due("added", x.stratum(1, 2000, 8), 2);
        Due.due("below the last one", x.ground(1, 2), 1000);
        Words.of("Returns the number of strata then; INVALID_ARGUMENT if an argument is out of range; LIMIT_REACHED");
        Due.due("of two, the first", x.stratum(0, 1500, 9), 2);
        Due.due("of two, the last", x.stratum(1, 2500, 8), 2);
        Due.due("of two, one more", x.stratum(2, 3500, 7), 3);
        Due.due("of three, two more", x.stratum(4, 3500, 7), -1);
        Due.due("the first is set", x.ground(0, 0), 1500);
        Due.due("the second is set", x.ground(1, 0), 2500);
        Due.due("the third begins", x.ground(2, 2), 4000);
    }

    /** The energy is 100 * fall, so that resistances differ by the sets; the loss is 3. */
    private static void rock() {
        Words.of("Below the last one lies rock with the resistance 2000.");
        PileSets x = Made.with(20000);
        x.set(0, 10000);
        x.set(1, 100);
        Made.pressTo(x, 0, 9999);
        Due.due("set above the rock", x.would(0, 200), 20000 / 50 - 3);
        Due.due("held above the rock", x.test(0, 500 + 99), 0);
        Due.due("no more", x.test(0, 500 + 100), 1);
        Due.due("at the rock", x.pileOf(0, 3), 10000);
        Due.due("set in the rock", x.would(0, 3000), 300000 / 2000 - 3);
        Due.due("a fall less in the rock", x.would(0, 2999), 299900 / 2000 - 3);
        Due.due("held in the rock", x.test(0, 20000 + 100), 0);
        Due.due("no more in the rock", x.test(0, 20000 + 101), 1);
        for (int k = 1; k < 6; k++) {
            x.stratum(k, 100, 50);
        }
        Made.pressTo(x, 0, 10500);
        Due.due("set in the rock below six strata", x.would(0, 3000), 147);
    }

    private static void whereADepthLies() {
        Words.of("A depth d lies in the stratum k if the sum of the thicknesses of those above it is at most d,");
        PileSets x = sixThin();
        for (int k = 0; k < 6; k++) {
            Due.due("at the begin of " + k, x.at(beginOf(k)), k);
        }
        Words.of("and d is less than this sum with its own;");
        for (int k = 0; k < 6; k++) {
            Due.due("at the last depth of " + k, x.at(beginOf(k + 1) - 1), k);
        }
        Words.of("if there is no such stratum, it lies in the rock.");
        Due.due("below all six", x.at(beginOf(6)), -4);
        x.cut();
        Due.due("in the last of five", x.at(beginOf(5) - 1), 4);
        Due.due("below five", x.at(beginOf(5)), -4);
        while (x.count(0) > 1) {
            x.cut();
        }
        Due.due("in the only one", x.at(99), 0);
        Due.due("below the only one", x.at(100), -4);
    }

    /** Strata of 100, 101, and so on. */
    private static PileSets sixThin() {
        PileSets x = new PileSets();
        for (int k = 0; k < 6; k++) {
            x.stratum(k, 100 + k, 10 + k);
        }
        return x;
    }

    private static int beginOf(int stratum) {
        int begin = 0;
        for (int k = 0; k < stratum; k++) {
            begin += 100 + k;
        }
        return begin;
    }

    private static void whereAFootLies() {
        Words.of("3: piles whose feet are in it");
        PileSets x = sixThin();
        for (int k = 0; k <= 6; k++) {
            x.pile(k, 0, 1000);
            Made.pressTo(x, k, beginOf(k));
        }
        for (int k = 0; k < 6; k++) {
            Due.due("one at the begin of " + k, x.ground(k, 3), 1);
        }
        Made.pressTo(x, 2, beginOf(3) - 1);
        Due.due("one at the last depth", x.ground(2, 3), 1);
        Made.pressTo(x, 2, beginOf(3));
        Due.due("one gone on", x.ground(2, 3), 0);
        Due.due("two then", x.ground(3, 3), 2);
        x.cut();
        Due.due("feet in the rock are in none", x.ground(5, 3), -1);
        x.undo();
        Due.due("then in the stratum again", x.ground(5, 3), 1);
        PileSets y = new PileSets();
        Due.due("none of no piles", y.ground(0, 3), 0);
        for (int i = 0; i < 10; i++) {
            y.pile(i, 0, 1000);
        }
        Due.due("all ten", y.ground(0, 3), 10);
    }

    private static void pilesStay() {
        Words.of("When strata change, piles stay where they are.");
        PileSets x = Made.with(5000, 5000);
        Made.pressTo(x, 0, 700);
        x.stratum(0, 100, 50);
        Due.due("foot below a thinner stratum", x.pileOf(0, 3), 700);
        Due.due("foot of the other", x.pileOf(1, 3), 0);
        x.stratum(1, 1000, 9);
        Due.due("foot in a new stratum", x.pileOf(0, 3), 700);
        Due.due("it is in it", x.ground(1, 3), 1);
        x.cut();
        Due.due("foot below a cut", x.pileOf(0, 3), 700);
        x.undo();
        Due.due("foot behind undo of the cut", x.pileOf(0, 3), 700);
        Due.due("nothing lifted", x.count(23), 0);
    }

    private static void cutting() {
        Words.of("`int cut()`: Removes the last stratum.");
        PileSets x = new PileSets();
        x.stratum(1, 500, 60);
        x.stratum(2, 700, 80);
        Words.of("Returns the number of strata then; NOT_POSSIBLE if there is only one.");
        Due.due("cut of three", x.cut(), 2);
        Due.due("the last is gone", x.ground(2, 0), -1);
        Due.due("the one above stays", x.ground(1, 0), 500);
        Due.due("cut of two", x.cut(), 1);
        Due.due("the first stays", x.ground(0, 0), 10000);
        long changes = x.count(4);
        Due.due("cut of one", x.cut(), -2);
        Due.due("the only one stays", x.ground(0, 0), 10000);
        Due.due("nothing recorded", x.count(4), changes);
    }

    private static void properties() {
        Words.of("- `stratum`: number of the stratum");
        PileSets x = new PileSets();
        x.stratum(1, 700, 80);
        for (int stratum : new int[] {NEAR_END, -1, 2, 6, FAR}) {
            for (int what = 0; what < 4; what++) {
                Due.due("ground(" + stratum + ", " + what + ")", x.ground(stratum, what), -1);
            }
        }
        Words.of("- `what`: 0: its thickness; 1: its resistance; 2: the depth at which it begins; ");
        Due.due("thickness", x.ground(1, 0), 700);
        Due.due("resistance", x.ground(1, 1), 80);
        Due.due("begin", x.ground(1, 2), 10000);
        Words.of("`int ground(int stratum, int what)`: Returns a property of a stratum.");
        Due.due("of the other", x.ground(0, 0), 10000);
        Words.of("Returns the property; INVALID_ARGUMENT if an argument is out of range.");
        for (int what : new int[] {NEAR_END, -1, 4, FAR}) {
            Due.due("what " + what, x.ground(0, what), -1);
            Due.due("what " + what + " of the last", x.ground(1, what), -1);
        }
    }

    private static void depths() {
        Words.of("- `depth`: 0 to 200000");
        PileSets x = new PileSets();
        for (int depth : new int[] {NEAR_END, -1, 200001, FAR}) {
            Due.due("at(" + depth + ")", x.at(depth), -1);
        }
        Due.due("at(0)", x.at(0), 0);
        Due.due("at(200000)", x.at(200000), -4);
        Words.of("`int at(int depth)`: Returns the stratum in which a depth lies.");
        Due.due("at(9999)", x.at(9999), 0);
        for (int k = 0; k < 6; k++) {
            x.stratum(k, 20000, 1);
        }
        for (int k = 0; k < 6; k++) {
            Due.due("begin of " + k, x.at(20000 * k), k);
            Due.due("end of " + k, x.at(20000 * k + 19999), k);
        }
        Words.of("Returns the stratum; INVALID_ARGUMENT if depth is out of range; NOT_FOUND in the rock.");
        Due.due("the least depth of the rock", x.at(120000), -4);
        Due.due("the greatest depth", x.at(200000), -4);
        Due.due("beyond", x.at(200001), -1);
    }
}

/** The edges in what the document says of settings and numbers: promises 6 and 7. */
final class SettingEdges {
    private static final String[] RANGES = {
        "0 the mass of the hammer (100 to 10000; 2000)", "1 the efficiency in percent (10 to 100; 70)",
        "2 the loss of each blow (0 to 50; 3)", "3 the safety in percent (100 to 500; 200)",
        "4 the reach (0 to 10000; 3000)", "5 the lift in percent (0 to 50; 4)"
    };
    private static final int[] LEAST = {100, 10, 0, 100, 0, 0};
    private static final int[] MOST = {10000, 100, 50, 500, 10000, 50};
    private static final int[] FIRST = {2000, 70, 3, 200, 3000, 4};

    private SettingEdges() {
    }

    static void all() {
        ranges();
        arguments();
        numbersThatAre();
        numbersThatAreNot();
        numbersAtTheirMost();
        greatWork();
    }

    private static void ranges() {
        Words.of("The settings are (in parentheses: range; first value):");
        Due.due("settings", RANGES.length, 6);
        for (int what = 0; what < RANGES.length; what++) {
            Words.of(RANGES[what]);
            PileSets x = new PileSets();
            Due.due("first value", x.count(10 + what), FIRST[what]);
            for (int value : new int[] {Integer.MIN_VALUE, LEAST[what] - 1, MOST[what] + 1, Integer.MAX_VALUE}) {
                Due.due("value " + value, x.set(what, value), -1);
                Due.due("it stays", x.count(10 + what), FIRST[what]);
            }
            Due.due("nothing recorded", x.count(4), 0);
            int previous = FIRST[what];
            for (int value : new int[] {LEAST[what], LEAST[what] + 1, MOST[what] - 1, MOST[what]}) {
                Due.due("value " + value, x.set(what, value), previous);
                Due.due("it is", x.count(10 + what), value);
                previous = value;
            }
        }
    }

    private static void arguments() {
        Words.of("- `what`: 0 to 5");
        PileSets x = new PileSets();
        for (int what : new int[] {Integer.MIN_VALUE, -1, 6, 10, 15, Integer.MAX_VALUE}) {
            // 100 is in the range of more than one setting, and so can't be what is wrong.
            Due.due("set(" + what + ", 100)", x.set(what, 100), -1);
        }
        Words.of("- `value`: a value in its range");
        Due.due("in that of the mass alone", x.set(0, 10000), 2000);
        for (int what : new int[] {1, 2, 3, 5}) {
            Due.due("out of that of " + what, x.set(what, 10000), -1);
        }
        Due.due("in that of the reach too", x.set(4, 10000), 3000);
        Words.of("`int set(int what, int value)`: Sets a setting.");
        Due.due("set", x.set(3, 400), 200);
        Due.due("is", x.count(13), 400);
        Words.of("Returns the previous value; INVALID_ARGUMENT if an argument is out of range.");
        Due.due("again", x.set(3, 300), 400);
        Due.due("the same value", x.set(3, 300), 300);
        Due.due("a loss of 0", x.set(2, 0), 3);
        Due.due("a previous value of 0", x.set(2, 50), 0);
    }

    private static void numbersThatAre() {
        Words.of("`long count(int what)`: Returns a number.");
        PileSets x = Made.with(5000, 5000, 5000);
        x.set(5, 50);
        x.strike(0, 500);
        x.strike(1, 1000);
        x.test(2, 520);
        x.type('a');
        x.type('b');
        // Set 137 with the energy 7000; 277 with 14000, which lifts the first one by 137, not by 138.
        int[] whats = {0, 1, 2, 3, 4, 5, 6, 10, 11, 12, 13, 14, 15, 20, 21, 22, 23, 24};
        long[] due = {1, 3, 1, 2, 4, 2, 280, 2000, 70, 3, 200, 3000, 50, 21000, 414 * 50, 414, 137, 3};
        Words.of("- `what`: 0: strata; 1: piles; 2: loose piles; 3: all blows; 4: states in the history; "
            + "5: the length of the text; 6: the sum of the depths of all feet; 10 to 15: the settings 0 to 5; "
            + "20: the energy of all blows together; 21: the work in the ground of all blows; 22: the sum of all sets; "
            + "23: the sum of all lifts; 24: the sum of what tests pressed piles down");
        for (int i = 0; i < whats.length; i++) {
            Due.due("count(" + whats[i] + ")", x.count(whats[i]), due[i]);
        }
    }

    private static void numbersThatAreNot() {
        Words.of("Returns the number; INVALID_ARGUMENT if what is out of range.");
        PileSets x = new PileSets();
        int[] none = {-1, 7, 8, 9, 16, 17, 18, 19, 25, 26, 30, Integer.MIN_VALUE, Integer.MIN_VALUE + 9,
            Integer.MIN_VALUE + 10, Integer.MIN_VALUE + 15, Integer.MAX_VALUE};
        for (int what : none) {
            Due.due("count(" + what + ")", x.count(what), -1);
        }
    }

    /** A sum of energies that no int holds, and a last call that is the 512th one. */
    private static void numbersAtTheirMost() {
        Words.of("An object is used for at most 512 calls after it has been made;");
        PileSets x = Made.with(50000);
        x.stratum(0, 100, 500);
        x.set(0, 10000);
        x.set(1, 100);
        x.set(2, 50);
        x.test(0, 6001);
        // In the rock the set is 102000 / 2000 - 50; from 101 on, 49899 such blows come to the length.
        for (int call = 7; call <= 505; call++) {
            Due.due("call " + call, x.drive(0, 1020, 0, 100), call < 505 ? 100 : 99);
        }
        Due.due("blows", x.count(3), 49899);
        Due.due("energy", x.count(20), 49899L * 102000);
        Due.due("work", x.count(21), 49899L * 2000);
        Due.due("sets", x.count(22), 49899);
        Due.due("depths", x.count(6), 50000);
        Due.due("states in the history", x.count(4), 4);
        Due.due("call 512", x.pileOf(0, 4), 49899);
    }

    /** Piles that lift each other again and again in the rock do more work than an int holds. */
    private static void greatWork() {
        Words.of("20: the energy of all blows together; 21: the work in the ground of all blows; 22: the sum of all sets;");
        PileSets x = new PileSets();
        Model model = new Model();
        int[][] settings = {{0, 10000}, {1, 100}, {2, 0}, {5, 50}};
        for (int[] setting : settings) {
            x.set(setting[0], setting[1]);
            model.call(4, setting[0], setting[1], 0, 0);
        }
        x.stratum(0, 100, 500);
        model.call(0, 0, 100, 500, 0);
        for (int pile = 0; pile < 8; pile++) {
            x.pile(pile, 0, 50000);
            model.call(6, pile, 0, 50000, 0);
        }
        for (char character : "0:3000*9;1:3000*9;2:3000*9;3:3000*9;4:3000*9;5:3000*9;6:3000*9;7:3000*9;".toCharArray()) {
            x.type(character);
            model.call(20, character, 0, 0, 0);
        }
        for (int call = 0; call < 400; call++) {
            Due.due("carry " + call, x.carry(), model.call(23, 0, 0, 0, 0));
        }
        for (int what : new int[] {3, 6, 20, 21, 22, 23}) {
            Due.due("count(" + what + ")", x.count(what), model.call(5, what, 0, 0, 0));
        }
        Due.dueTrue("more work than an int holds", x.count(21) > Integer.MAX_VALUE);
    }
}

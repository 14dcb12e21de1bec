/** Objects as tests begin with them, and steps that tests share. */
final class Made {
    private Made() {
    }

    /** A new object with piles of certain lengths, side by side. */
    static PileSets with(int... lengths) {
        PileSets x = new PileSets();
        for (int i = 0; i < lengths.length; i++) {
            x.pile(i, 0, lengths[i]);
        }
        return x;
    }

    /** Piles in a ground in which a blow has the energy 10 * fall, and its fall as its set, up to 500. */
    static PileSets plain(int... lengths) {
        PileSets x = with(lengths);
        x.stratum(0, 20000, 10);
        x.set(0, 1000);
        x.set(1, 100);
        x.set(2, 0);
        return x;
    }

    /** A pile with blows of certain sets: the energy is 10 * h, so that the set is h / 10 - 10, and the load 100. */
    static PileSets withSets(int... sets) {
        PileSets x = new PileSets();
        x.stratum(0, 20000, 100);
        x.set(0, 1000);
        x.set(1, 100);
        x.set(2, 10);
        x.pile(0, 0, 50000);
        for (int set : sets) {
            Due.due("set", x.strike(0, fallOf(set)), set);
        }
        return x;
    }

    static int fallOf(int set) {
        return (set + 10) * 10;
    }

    /** Brings a foot to a depth by tests, for those lift nothing; one test can press by some 7900 anywhere. */
    static void pressTo(PileSets x, int pile, int depth) {
        int foot = x.pileOf(pile, 3);
        for (int step = 0; step < 8 && foot < depth; step++) {
            int layer = x.at(foot);
            int held = (layer < 0 ? 2000 : x.ground(layer, 1)) * 10 + foot / 100;
            int press = Math.min(7000, depth - foot);
            Due.due("pressed by", x.test(pile, held + (press - 1) * 10 + 1), press);
            foot = x.pileOf(pile, 3);
        }
        Due.dueTrue("pressed to " + depth, foot >= depth);
    }

    static void write(PileSets x, String text) {
        for (int i = 0; i < text.length(); i++) {
            x.type(text.charAt(i));
        }
        Due.dueTrue("written: " + text, x.count(5) >= text.length());
    }
}

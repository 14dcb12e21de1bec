/** The edges in what the document says of orders: promises 20 and 21. */
final class OrderEdges {
    private static final int FAR = Integer.MAX_VALUE;
    private static final int NEAR_END = Integer.MIN_VALUE;

    private OrderEdges() {
    }

    static void all() {
        neverHadABlow();
        asManyBlowsAsTold();
        notAtItsLength();
        oneAfterTheOther();
        liftsOfAll();
        firstOfSeveral();
        blowsRange();
        indexes();
        atMostFive();
        least();
        nothingChanges();
    }

    private static void dueOrder(String name, PileSets x, int fall, int blows, int... order) {
        for (int i = 0; i < order.length; i++) {
            Due.due(name + ": order(" + fall + ", " + blows + ", " + i + ")", x.order(fall, blows, i), order[i]);
        }
        Due.due(name + ": no more", x.order(fall, blows, order.length), -4);
    }

    private static void neverHadABlow() {
        Words.of("Finds the order in which all piles that never had a blow could be driven,");
        PileSets x = Made.plain(5000, 5000, 5000);
        dueOrder("all", x, 500, 3, 0, 1, 2);
        x.strike(1, 100);
        dueOrder("but the one with a blow", x, 500, 3, 0, 2);
        x.undo();
        dueOrder("the blow is undone", x, 500, 3, 0, 1, 2);
        x.test(1, 5000);
        // Pressed to 491, it would be lifted if it were not the first one.
        dueOrder("a test is no blow", x, 500, 3, 1, 0, 2);
        x.set(2, 50);
        x.stratum(0, 20000, 500);
        Due.due("a set of 0", x.strike(0, 100), 0);
        dueOrder("is of a blow", x, 500, 3, 1, 2);
    }

    private static void asManyBlowsAsTold() {
        Words.of("each with as many blows of one fall as told");
        // The second pile stands at 800, and is lifted by those blows that come deeper.
        PileSets x = Made.plain(5000, 5000);
        x.set(5, 10);
        x.strike(1, 400);
        x.strike(1, 400);
        Due.due("8 blows of 100", x.leastLift(100, 8), 0);
        Due.due("9 blows of 100", x.leastLift(100, 9), 10);
        Due.due("10 blows of 100", x.leastLift(100, 10), 20);
        Due.due("4 blows of 200", x.leastLift(200, 4), 0);
        Due.due("5 blows of 200", x.leastLift(200, 5), 20);
        Due.due("1 blow of 500", x.leastLift(500, 1), 0);
        Due.due("2 blows of 500", x.leastLift(500, 2), 50);
    }

    private static void notAtItsLength() {
        Words.of("(as long as its foot is not at its length)");
        PileSets x = Made.plain(1000, 5000);
        x.set(5, 10);
        x.strike(1, 450);
        // 500, 500 and no third blow; each of them is deeper than 450 less the lifts.
        Due.due("2 blows", x.leastLift(500, 2), 100);
        Due.due("20 blows", x.leastLift(500, 20), 100);
        Made.pressTo(x, 0, 999);
        Due.due("one is left, which lifts by 0", x.leastLift(500, 20), 0);
        Made.pressTo(x, 0, 1000);
        Due.due("none is left", x.leastLift(500, 20), 0);
        dueOrder("it has its place in the order", x, 500, 20, 0);
    }

    private static void oneAfterTheOther() {
        Words.of("one pile after the other, with the least sum of lifts");
        // The first one driven ends at 1000, the second at 1500: driven last, it lifts the other one.
        PileSets x = Made.plain(1000, 1500);
        x.set(5, 10);
        dueOrder("the deeper one first", x, 500, 20, 1, 0);
        Due.due("no lift", x.leastLift(500, 20), 0);
        PileSets y = Made.plain(1500, 1000);
        y.set(5, 10);
        dueOrder("the other way", y, 500, 20, 0, 1);
        dueOrder("as deep in two blows", x, 500, 2, 0, 1);
        PileSets one = Made.plain(1000, 5000);
        one.set(5, 1);
        // The eleventh blow on the second pile comes to 1100, and would lift the first one by 1.
        dueOrder("a lift of 1 counts", one, 100, 11, 1, 0);
        dueOrder("none up to the tenth", one, 100, 10, 0, 1);
        PileSets z = Made.plain(1000, 2000, 3000, 4000, 5000);
        dueOrder("five", z, 500, 20, 4, 3, 2, 1, 0);
        dueOrder("five, by three blows", z, 500, 3, 1, 2, 3, 4, 0);
        dueOrder("five, by two blows", z, 500, 2, 0, 1, 2, 3, 4);
    }

    /** Only the lifts of the second pile, which had a blow, make a difference. */
    private static void liftsOfAll() {
        Words.of("(of all piles, also of those that had blows before),");
        PileSets x = new PileSets();
        x.stratum(0, 20000, 10);
        x.set(0, 1000);
        x.set(1, 100);
        x.set(2, 0);
        x.pile(0, 0, 5000);
        x.pile(1000, 0, 5000);
        x.pile(2000, 0, 5000);
        x.set(4, 1000);
        x.strike(1, 200);
        x.set(5, 50);
        Made.pressTo(x, 0, 150);
        Made.pressTo(x, 2, 60);
        // Pile 0 comes to 250 and lifts by 50 to 150; pile 2 comes to 160 and lifts only if that was before.
        dueOrder("so", x, 100, 1, 2, 0);
        Due.due("so", x.leastLift(100, 1), 50);
    }

    private static void firstOfSeveral() {
        Words.of("of several orders the first one by the numbers of the piles. Nothing changes.");
        PileSets x = Made.plain(5000, 1000, 2000, 5000);
        x.set(4, 0);
        dueOrder("none near", x, 500, 20, 0, 1, 2, 3);
        x.set(4, 1);
        dueOrder("side by side", x, 500, 20, 0, 3, 2, 1);
        Due.due("no lift", x.leastLift(500, 20), 0);
        PileSets y = Made.plain(2000, 2000, 2000, 2000, 2000);
        dueOrder("all alike", y, 500, 20, 0, 1, 2, 3, 4);
        y.set(5, 0);
        dueOrder("no lift at all", y, 500, 1, 0, 1, 2, 3, 4);
        PileSets z = Made.plain(1000, 1000, 1000, 1000, 3000);
        dueOrder("the last one first", z, 500, 20, 4, 0, 1, 2, 3);
    }

    private static void blowsRange() {
        Words.of("- `blows`: 1 to 20");
        PileSets x = Made.plain(5000);
        for (int blows : new int[] {NEAR_END, -1, 0, 21, FAR}) {
            Due.due("order " + blows, x.order(500, blows, 0), -1);
            Due.due("leastLift " + blows, x.leastLift(500, blows), -1);
        }
        Due.due("order 1", x.order(500, 1, 0), 0);
        Due.due("order 20", x.order(500, 20, 0), 0);
        Due.due("leastLift 1", x.leastLift(500, 1), 0);
        Due.due("leastLift 20", x.leastLift(500, 20), 0);
        PileSets y = Made.plain(50000, 5000);
        y.set(5, 10);
        y.drive(1, 450, 0, 1);
        y.drive(1, 400, 0, 1);
        // 50 a blow: the 9th one of 100 comes to 900.
        Due.due("19 blows", y.leastLift(100, 19), 110);
        Due.due("20 blows", y.leastLift(100, 20), 120);
    }

    private static void indexes() {
        Words.of("- `index`: 0 for the first pile of the order, and so on");
        PileSets x = Made.plain(1000, 3000, 2000);
        Due.due("0", x.order(500, 20, 0), 1);
        Due.due("1", x.order(500, 20, 1), 2);
        Due.due("2", x.order(500, 20, 2), 0);
        Words.of("Returns the pile; INVALID_ARGUMENT if an argument is out of range (index: negative); "
            + "NOT_POSSIBLE if there are more than 5 piles without blows; NOT_FOUND if there are not so many.");
        Due.due("-1", x.order(500, 20, -1), -1);
        Due.due("far below", x.order(500, 20, NEAR_END), -1);
        Due.due("3", x.order(500, 20, 3), -4);
        Due.due("5", x.order(500, 20, 5), -4);
        Due.due("far above", x.order(500, 20, FAR), -4);
        Due.due("3, no fall", x.order(99, 20, 3), -1);
        PileSets none = new PileSets();
        Due.due("no piles", none.order(500, 20, 0), -4);
        Due.due("no piles, -1", none.order(500, 20, -1), -1);
        PileSets five = Made.plain(1000, 1000, 1000, 1000, 1000);
        Due.due("4 of five", five.order(500, 20, 4), 4);
        Due.due("5 of five", five.order(500, 20, 5), -4);
    }

    private static void atMostFive() {
        Words.of("NOT_POSSIBLE if there are more than 5 piles without blows");
        PileSets x = new PileSets();
        for (int i = 0; i < 10; i++) {
            x.pile(i, 0, 5000);
            Due.due("order of " + (i + 1), x.order(500, 1, 0), i < 5 ? 0 : -2);
            Due.due("leastLift of " + (i + 1), x.leastLift(500, 1), i < 5 ? 0 : -2);
        }
        Due.due("index 10", x.order(500, 1, 10), -2);
        Due.due("index -1", x.order(500, 1, -1), -1);
        Due.due("fall 99", x.order(99, 1, 0), -1);
        Due.due("blows 21", x.order(500, 21, 0), -1);
        Due.due("leastLift, fall 3001", x.leastLift(3001, 1), -1);
        Due.due("leastLift, blows 0", x.leastLift(500, 0), -1);
        for (int struck = 0; struck < 5; struck++) {
            Due.due("with " + struck + " struck", x.order(500, 1, 0), -2);
            x.strike(2 * struck, 100);
        }
        dueOrder("five of ten", x, 500, 1, 1, 3, 5, 7, 9);
    }

    private static void least() {
        Words.of("`int leastLift(int fall, int blows)`: Returns the sum of lifts of that order.");
        PileSets x = Made.plain(5000, 5000, 1500, 1000);
        x.set(5, 50);
        x.strike(0, 300);
        // Driven first, pile 1 lifts pile 0 by 250 and by the 50 that are left.
        dueOrder("order", x, 500, 4, 1, 2, 3);
        Due.due("sum", x.leastLift(500, 4), 300);
        x.drive(1, 500, 0, 4);
        Due.due("made", x.count(23), 300);
        Due.due("no more then", x.leastLift(500, 4), 0);
        x.drive(2, 500, 0, 4);
        x.drive(3, 500, 0, 4);
        Due.due("as told", x.count(23), 300);
        Words.of("Returns the sum, 0 if there are no such piles; INVALID_ARGUMENT if an argument is out of range; "
            + "NOT_POSSIBLE if there are more than 5 piles without blows.");
        Due.due("all have blows", x.leastLift(500, 4), 0);
        Due.due("no piles", new PileSets().leastLift(500, 4), 0);
        Due.due("no piles, no fall", new PileSets().leastLift(99, 4), -1);
    }

    private static void nothingChanges() {
        Words.of("Nothing changes.");
        PileSets x = Made.plain(1000, 3000, 2000);
        x.strike(1, 300);
        Made.pressTo(x, 0, 100);
        Made.pressTo(x, 2, 200);
        long[] before = Look.at(x);
        Due.due("order", x.order(500, 20, 0), 2);
        // Three blows of 500 and one of 300 on pile 2 lift both others, then 500 and 472 on pile 0 the driven one.
        Due.due("leastLift", x.leastLift(500, 20), 2 * (20 + 20 + 20 + 12) + 20 + 18);
        Look.dueAlike("behind them", Look.at(x), before);
        Due.due("states", x.count(4), 4);
    }
}

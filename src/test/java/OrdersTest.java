/** Promises 20 and 21: order, leastLift. */
final class OrdersTest {
    public static void main(String[] args) {
        errors();
        noPiles();
        tooMany();
        deepestFirst();
        eachOrder();
        firstOneOfSeveral();
        drivenOnesAreLiftedToo();
        pressedOnesCanNotBeStruck();
        nothingChanges();
        asDriven();
        Due.end("OrdersTest");
    }

    private static void dueOrder(String name, PileSets x, int fall, int blows, int... want) {
        for (int i = 0; i < want.length; i++) {
            Due.due(name + ": order(" + fall + ", " + blows + ", " + i + ")", x.order(fall, blows, i), want[i]);
        }
        Due.due(name + ": behind the last", x.order(fall, blows, want.length), -4);
    }

    private static void errors() {
        PileSets x = new PileSets();
        x.pile(0, 0, 5000);
        Due.due("fall 99", x.order(99, 1, 0), -1);
        Due.due("fall 3001", x.order(3001, 1, 0), -1);
        Due.due("blows 0", x.order(100, 0, 0), -1);
        Due.due("blows 21", x.order(100, 21, 0), -1);
        Due.due("index -1", x.order(100, 1, -1), -1);
        Due.due("least fall and blows", x.order(100, 1, 0), 0);
        Due.due("most fall and blows", x.order(3000, 20, 0), 0);
        Due.due("index 1", x.order(100, 1, 1), -4);
        Due.due("index at the end of int", x.order(100, 1, Integer.MAX_VALUE), -4);
        Due.due("leastLift fall 99", x.leastLift(99, 1), -1);
        Due.due("leastLift fall 3001", x.leastLift(3001, 1), -1);
        Due.due("leastLift blows 0", x.leastLift(100, 0), -1);
        Due.due("leastLift blows 21", x.leastLift(100, 21), -1);
        Due.due("leastLift", x.leastLift(100, 1), 0);
        Due.due("leastLift most", x.leastLift(3000, 20), 0);
    }

    private static void noPiles() {
        PileSets x = new PileSets();
        dueOrder("no piles", x, 1000, 5);
        Due.due("no lift", x.leastLift(1000, 5), 0);
        x.pile(0, 0, 5000);
        x.strike(0, 1000);
        dueOrder("none without blows", x, 1000, 5);
        Due.due("no lift then", x.leastLift(1000, 5), 0);
        x.undo();
        dueOrder("one without blows", x, 1000, 5, 0);
    }

    private static void tooMany() {
        PileSets x = new PileSets();
        for (int i = 0; i < 6; i++) {
            x.pile(i * 4000 % 20000, i, 5000);
        }
        Due.due("six", x.order(1000, 1, 0), -2);
        Due.due("six, index 9", x.order(1000, 1, 9), -2);
        Due.due("six, index -1", x.order(1000, 1, -1), -1);
        Due.due("six, fall 99", x.order(99, 1, 0), -1);
        Due.due("six, leastLift", x.leastLift(1000, 1), -2);
        Due.due("six, leastLift with 21 blows", x.leastLift(1000, 21), -1);
        x.test(3, 9000);
        Due.due("a test is no blow", x.leastLift(1000, 1), -2);
        x.strike(2, 100);
        dueOrder("five", x, 1000, 1, 0, 1, 3, 4, 5);
    }

    private static void deepestFirst() {
        PileSets x = new PileSets();
        x.pile(0, 0, 2000);
        x.pile(100, 0, 4000);
        x.pile(200, 0, 1000);
        x.pile(300, 0, 5000);
        x.pile(400, 0, 3000);
        dueOrder("by length", x, 3000, 20, 3, 1, 4, 0, 2);
        Due.due("without lift", x.leastLift(3000, 20), 0);
        // Three blows bring 1500: then only the third pile is shorter.
        dueOrder("by what they reach", x, 3000, 3, 0, 1, 3, 4, 2);
        // In two blows each of them reaches 1000.
        dueOrder("alike", x, 3000, 2, 0, 1, 2, 3, 4);
        x.set(5, 0);
        dueOrder("with no lift at all", x, 3000, 20, 0, 1, 2, 3, 4);
    }

    /** Each of the 120 orders is the one with the least lift for some lengths. */
    private static void eachOrder() {
        int seen = 0;
        for (int code = 0; code < 3125; code++) {
            int[] order = {code / 625, code / 125 % 5, code / 25 % 5, code / 5 % 5, code % 5};
            int[] lengths = new int[5];
            for (int i = 0; i < 5; i++) {
                lengths[order[i]] = 5000 - 1000 * i;
            }
            if (lengths[0] * lengths[1] * lengths[2] * lengths[3] * lengths[4] != 0) {
                seen++;
                PileSets x = new PileSets();
                for (int i = 0; i < 5; i++) {
                    x.pile(i, i, lengths[i]);
                }
                dueOrder("longest first", x, 3000, 10, order);
            }
        }
        Due.due("orders", seen, 120);
    }

    private static void firstOneOfSeveral() {
        PileSets x = new PileSets();
        x.pile(0, 0, 5000);
        x.pile(10000, 0, 1000);
        x.pile(10001, 0, 2000);
        x.pile(20000, 0, 5000);
        // Only that 2 is ahead of 1 counts.
        dueOrder("only a pair is near", x, 3000, 10, 0, 2, 1, 3);
        Due.due("without lift", x.leastLift(3000, 10), 0);
        x.set(4, 0);
        dueOrder("none near", x, 3000, 10, 0, 1, 2, 3);
    }

    private static void drivenOnesAreLiftedToo() {
        PileSets x = new PileSets();
        x.set(5, 50);
        x.pile(0, 0, 5000);
        x.pile(1000, 0, 5000);
        x.strike(0, 100);
        // The set is 277: the foot at 25 is lifted by the first blow.
        Due.due("up to 0", x.leastLift(1000, 3), 25);
        x.pile(4000, 0, 5000);
        Due.due("of one that is not near to all", x.leastLift(1000, 3), 25);
        dueOrder("the driven one is not in it", x, 1000, 3, 1, 2);
        x.strike(0, 3000);
        x.strike(0, 3000);
        Due.due("less deep than the fourth blow alone", x.leastLift(1000, 3), 0);
        Due.due("by the fourth one", x.leastLift(1000, 4), 138);
        Due.due("and the fifth one", x.leastLift(1000, 5), 276);
    }

    private static void pressedOnesCanNotBeStruck() {
        PileSets x = new PileSets();
        x.set(5, 10);
        x.pile(0, 0, 1000);
        x.pile(10, 0, 3000);
        x.pile(20, 0, 3000);
        Made.pressTo(x, 0, 1000);
        // The first one is at its length until the others lift it; wherever it is driven, the sum is the same.
        dueOrder("first", x, 1000, 5, 0, 1, 2);
        Due.due("lifts", x.leastLift(1000, 5), 4 * 27);
    }

    private static void nothingChanges() {
        PileSets x = new PileSets();
        x.pile(0, 0, 1000);
        x.pile(10, 0, 3000);
        x.pile(20, 0, 3000);
        x.strike(2, 500);
        int changes = (int) x.count(4);
        dueOrder("order", x, 3000, 10, 1, 0);
        Due.due("lift", x.leastLift(3000, 10), 137);
        Due.due("changes", x.count(4), changes);
        Due.due("blows", x.count(3), 1);
        Due.due("lifts", x.count(23), 0);
        Due.due("depths", x.count(6), 137);
        Due.due("loose", x.count(2), 0);
    }

    /** What leastLift tells is what the blows lift when they are made in the order that order tells. */
    private static void asDriven() {
        PileSets x = new PileSets();
        x.stratum(0, 700, 60);
        x.stratum(1, 900, 35);
        x.stratum(2, 800, 160);
        x.set(5, 30);
        int[][] places = {{0, 0}, {2500, 100}, {5000, 0}, {2000, 2900}, {100, 3000}, {2200, 1500}};
        int[] lengths = {3000, 1800, 2500, 1200, 4000, 1500};
        for (int i = 0; i < places.length; i++) {
            x.pile(places[i][0], places[i][1], lengths[i]);
        }
        x.test(2, 9000);
        x.test(3, 6000);
        x.drive(5, 900, 0, 4);
        int least = x.leastLift(1300, 9);
        int[] order = new int[5];
        for (int i = 0; i < 5; i++) {
            order[i] = x.order(1300, 9, i);
        }
        long before = x.count(23);
        for (int pile : order) {
            for (int blow = 0; blow < 9; blow++) {
                x.strike(pile, 1300);
            }
        }
        Due.due("lifts as told", x.count(23) - before, least);
        Due.dueTrue("there were lifts", least > 0);
    }
}

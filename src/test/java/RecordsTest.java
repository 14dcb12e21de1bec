/** Promises 22 to 25: type, clearText, fault, carry. */
final class RecordsTest {
    public static void main(String[] args) {
        typing();
        clearing();
        faultArguments();
        forms();
        missingPiles();
        numbers();
        positions();
        firstReason();
        carrying();
        carryPassesOver();
        carryIsOneChange();
        carryErrors();
        longest();
        Due.end("RecordsTest");
    }

    private static void typing() {
        PileSets x = new PileSets();
        Due.due("type(31)", x.type(31), -1);
        Due.due("type(127)", x.type(127), -1);
        Due.due("type(-1)", x.type(-1), -1);
        Due.due("type(65536 + 48)", x.type(65536 + 48), -1);
        Due.due("empty", x.count(5), 0);
        Due.due("type(32)", x.type(32), 1);
        Due.due("type(126)", x.type(126), 2);
        for (int i = 3; i <= 80; i++) {
            Due.due("type " + i, x.type('0'), i);
        }
        Due.due("the 81st", x.type('0'), -3);
        Due.due("the 81st, wrong", x.type(127), -1);
        Due.due("length", x.count(5), 80);
        Due.due("no change", x.count(4), 0);
        Due.due("clear", x.clearText(), 80);
        Due.due("type again", x.type('0'), 1);
    }

    private static void clearing() {
        PileSets x = new PileSets();
        Due.due("empty", x.clearText(), 0);
        Made.write(x, "abc");
        Due.due("three", x.clearText(), 3);
        Due.due("then none", x.count(5), 0);
        Due.due("none", x.clearText(), 0);
        Due.due("no change", x.count(4), 0);
        // What was in the text before is not read any more.
        x.pile(0, 0, 5000);
        Made.write(x, "0:1000;");
        x.clearText();
        Made.write(x, "0:100");
        dueFault("cut short", x, 0, 1);
        x.clearText();
        Made.write(x, "0:100;");
        x.clearText();
        Made.write(x, "0:100");
        dueFault("cut short by one", x, 0, 1);
        x.clearText();
        Due.due("none is no fault", x.fault(1), -4);
    }

    private static void dueFault(String name, PileSets x, int position, int reason) {
        Due.due(name + ": position", x.fault(0), position);
        Due.due(name + ": reason", x.fault(1), reason);
    }

    /** The fault of a text for two piles; a reason of 0 is none. */
    private static void dueText(String text, int position, int reason) {
        PileSets x = new PileSets();
        x.pile(0, 0, 50000);
        x.pile(1, 0, 50000);
        Made.write(x, text);
        dueFault("'" + text + "'", x, reason == 0 ? -4 : position, reason == 0 ? -4 : reason);
        Due.due("'" + text + "' carried", x.carry() == -2 ? 1 : 0, reason == 0 ? 0 : 1);
        Due.due("'" + text + "' stays", x.count(5), text.length());
        Due.due("'" + text + "' changes", x.count(4), reason == 0 ? 3 : 2);
    }

    private static void faultArguments() {
        PileSets x = new PileSets();
        Due.due("fault(-1)", x.fault(-1), -1);
        Due.due("fault(2)", x.fault(2), -1);
        Due.due("fault(0)", x.fault(0), -4);
        Due.due("fault(1)", x.fault(1), -4);
        x.type('x');
        Due.due("fault(2) with one", x.fault(2), -1);
        dueFault("x", x, 0, 1);
    }

    private static void forms() {
        String[] good = {"0:100;", "1:3000;", "0:0100;", "0:500*1;", "1:0999*40;", "0:100*09;", "0:100;1:100;0:100*2;"};
        for (String text : good) {
            dueText(text, 0, 0);
        }
        String[] bad = {
            ";", " ", "0", "0:", "0;", "0:;", "0:1;", "0:10;", "0:99;", "0:10000;", "0:100", "0:1000*;", "0:1000*", "0:1000*1",
            "0:1000*100;", "0:1000*001;", "0:100*4*4;", ":100;", "00:100;", "0100;", "0;100;", "0:100:", "0: 100;", " 0:100;",
            "0:100 ;", "a:100;", "0:1a0;", "0:100*a;", "0:-100;", "0:100*-1;", "0:+100;", "0:100,", "0-100;", "/:100;",
            "0:10/;", "0:10::", "0:1:0;", "0:100**2;", "0:*100;", "0:100*2", "0:100*2 ;", "0:100+2;", "9:99;", "::100;"
        };
        for (String text : bad) {
            dueText(text, 0, 1);
        }
    }

    private static void missingPiles() {
        dueText("2:100;", 0, 2);
        dueText("9:3000*40;", 0, 2);
        PileSets x = new PileSets();
        Made.write(x, "0:100;");
        dueFault("no piles", x, 0, 2);
        Due.due("not possible", x.carry(), -2);
        x.pile(0, 0, 5000);
        Due.due("one pile", x.fault(0), -4);
        Due.due("possible", x.carry(), 1);
        x.undo();
        x.undo();
        dueFault("no pile again", x, 0, 2);
    }

    private static void numbers() {
        dueText("0:099;", 0, 3);
        dueText("0:0099;", 0, 3);
        dueText("0:000;", 0, 3);
        dueText("0:3001;", 0, 3);
        dueText("0:9999;", 0, 3);
        dueText("0:100*0;", 0, 3);
        dueText("0:100*00;", 0, 3);
        dueText("0:100*41;", 0, 3);
        dueText("0:100*99;", 0, 3);
        dueText("0:3000*40;", 0, 0);
    }

    private static void positions() {
        dueText("0:100;;", 6, 1);
        dueText("0:100;1", 6, 1);
        dueText("0:100;1:3000*40", 6, 1);
        dueText("0:100*12;1:1000;2:100;", 16, 2);
        dueText("0:100*12;1:1000*41;2:100;", 9, 3);
        dueText("0:100*12;1:1000*4;x", 18, 1);
        dueText("2:100;x", 0, 2);
        dueText("0:3001;2:100;", 0, 3);
        dueText("0:100; 1:100;", 6, 1);
    }

    private static void firstReason() {
        dueText("2:3001;", 0, 2);
        dueText("2:3001*41;", 0, 2);
        dueText("2:3001", 0, 1);
        dueText("2:3001*41", 0, 1);
        dueText("2:3001*411;", 0, 1);
        dueText("0:3001*41;", 0, 3);
        dueText("0:3001*41", 0, 1);
    }

    private static void carrying() {
        PileSets x = new PileSets();
        x.pile(0, 0, 5000);
        x.pile(1, 0, 5000);
        Made.write(x, "0:1000*3;1:0500;0:100;");
        Due.due("carry", x.carry(), 5);
        Due.due("blows of 0", x.pileOf(0, 4), 4);
        Due.due("blows of 1", x.pileOf(1, 4), 1);
        Due.due("first set", x.blow(0, 3, 0), 277);
        Due.due("second set", x.blow(0, 2, 0), 277);
        Due.due("last set", x.blow(0, 0, 0), 25);
        Due.due("set of 1", x.blow(1, 0, 0), 137);
        Due.due("the last blow lifts the other", x.pileOf(1, 9), 1);
        Due.due("the text stays", x.count(5), 22);
        Due.due("carried again", x.carry(), 5);
        Due.due("all blows", x.count(3), 10);
        x.clearText();
        Made.write(x, "1:100*40;");
        Due.due("40 blows", x.carry(), 40);
        PileSets y = new PileSets();
        Due.due("an empty text", y.carry(), 0);
        Due.due("is a change", y.count(4), 1);
    }

    private static void carryPassesOver() {
        PileSets x = new PileSets();
        x.pile(0, 0, 1000);
        x.pile(1, 0, 1000);
        x.set(5, 50);
        Made.write(x, "0:3000*40;1:3000*3;0:3000;");
        // Pile 1 comes to 1000 too, but is never deeper than pile 0.
        Due.due("two and two", x.carry(), 4);
        Due.due("both at their lengths", x.count(6), 2000);
        Due.due("again", x.carry(), 0);
        Due.due("is a change", x.count(4), 4);
        Due.due("changes nothing", x.count(3), 4);
        PileSets z = new PileSets();
        z.pile(0, 0, 1000);
        Made.pressTo(z, 0, 999);
        Made.write(z, "0:1000*2;");
        Due.due("one is left", z.carry(), 1);
        PileSets y = new PileSets();
        y.set(5, 50);
        y.pile(0, 0, 1000);
        y.pile(1, 0, 2000);
        Made.write(y, "0:3000*3;1:3000*3;0:3000;");
        // The third blow on pile 1 comes to 1500, and lifts pile 0 from its length by 250.
        Due.due("a lifted one is struck again", y.carry(), 2 + 3 + 1);
        Due.due("at its length again", y.pileOf(0, 3), 1000);
    }

    private static void carryIsOneChange() {
        PileSets x = new PileSets();
        x.pile(0, 0, 5000);
        x.pile(1, 0, 5000);
        Made.write(x, "0:1000*3;1:2000*4;");
        x.carry();
        Due.due("one change", x.count(4), 3);
        Due.due("undo", x.undo(), 2);
        Due.due("no blows", x.count(3), 0);
        Due.due("no depth", x.count(6), 0);
        Due.due("no energy", x.count(20), 0);
        Due.due("the text stays", x.count(5), 18);
        Due.due("and can be carried", x.carry(), 7);
    }

    private static void carryErrors() {
        PileSets x = new PileSets();
        x.pile(0, 0, 5000);
        Made.write(x, "0:1000;0:3001;");
        Due.due("a fault behind", x.carry(), -2);
        Due.due("no blow at all", x.count(3), 0);
        Due.due("no change", x.count(4), 1);
    }

    private static void longest() {
        PileSets x = new PileSets();
        x.stratum(0, 20000, 500);
        x.pile(0, 0, 50000);
        StringBuilder text = new StringBuilder();
        for (int i = 0; i < 8; i++) {
            text.append("0:0100*40;");
        }
        Made.write(x, text.toString());
        Due.due("80 characters", x.count(5), 80);
        Due.due("no fault", x.fault(0), -4);
        Due.due("carried", x.carry(), 320);
        x.clearText();
        Made.write(x, text.substring(0, 79) + "0");
        dueFault("the last one open", x, 70, 1);
        x.clearText();
        Made.write(x, "0:100;0:100;0:100;0:100;0:100;0:100;0:100;0:100;0:100;0:100;0:100;0:100;0:100;");
        Due.due("13 parts", x.carry(), 13);
        Made.write(x, "00");
        dueFault("behind 13 parts", x, 78, 1);
    }
}

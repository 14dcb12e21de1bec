/** The edges in what the document says of records: promises 22 to 25. */
final class RecordEdges {
    private static final int FAR = Integer.MAX_VALUE;
    private static final int NEAR_END = Integer.MIN_VALUE;

    private RecordEdges() {
    }

    static void all() {
        eightyCharacters();
        characters();
        typed();
        cleared();
        possible();
        formOfPile();
        formOfFall();
        formOfTimes();
        formOfEnd();
        positions();
        noSuchPile();
        outOfRange();
        firstThatApplies();
        whats();
        noFault();
        passedOver();
        carried();
        carriedInVain();
    }

    private static void eightyCharacters() {
        Words.of("There is a text of at most 80 characters, initially empty:");
        PileSets x = new PileSets();
        Due.due("initially", x.count(5), 0);
        for (int length = 1; length <= 80; length++) {
            Due.due("type " + length, x.type('0'), length);
        }
        Due.due("one more", x.type('0'), -3);
        Due.due("80 stay", x.count(5), 80);
        Words.of("Returns the length of the text; INVALID_ARGUMENT if character is out of range; "
            + "LIMIT_REACHED if it has 80 characters.");
        Due.due("one more", x.type(126), -3);
        Due.due("one more out of range", x.type(127), -1);
        Due.due("one more out of range", x.type(31), -1);
        Due.due("cleared", x.clearText(), 80);
        Due.due("type 1", x.type('0'), 1);
    }

    private static void characters() {
        Words.of("- `character`: 32 to 126");
        PileSets x = new PileSets();
        for (int character : new int[] {NEAR_END, -1, 0, 9, 10, 31, 127, 128, 256 + 48, 65536 + 48, FAR}) {
            Due.due("type(" + character + ")", x.type(character), -1);
        }
        Due.due("none typed", x.count(5), 0);
        int length = 0;
        for (int character : new int[] {32, 33, 48, 58, 59, 125, 126}) {
            length++;
            Due.due("type(" + character + ")", x.type(character), length);
        }
    }

    private static void typed() {
        Words.of("`int type(int character)`: Appends a character to the text.");
        PileSets x = Made.plain(5000);
        Made.write(x, "0:100");
        Due.due("a fault", x.fault(1), 1);
        Due.due("appended", x.type(';'), 6);
        Due.due("none then", x.fault(1), -4);
        Due.due("appended behind", x.type(';'), 7);
        Due.due("a fault behind", x.fault(0), 6);
    }

    private static void cleared() {
        Words.of("`int clearText()`: Empties the text.");
        PileSets x = Made.plain(5000);
        Made.write(x, "0:100;9");
        x.clearText();
        Due.due("length", x.count(5), 0);
        Due.due("no fault", x.fault(0), -4);
        Due.due("no blows", x.carry(), 0);
        Made.write(x, "0:100");
        Due.due("what was there is not read", x.fault(0), 0);
        Words.of("Returns the length it had.");
        Due.due("5", x.clearText(), 5);
        Due.due("0", x.clearText(), 0);
    }

    /** The fault of a text where the piles 0 and 1 stand; a reason of 0 is none. */
    private static void dueFault(String text, int position, int reason) {
        PileSets x = Made.plain(50000, 50000);
        Made.write(x, text);
        Due.due("position in " + text, x.fault(0), reason == 0 ? -4 : position);
        Due.due("reason in " + text, x.fault(1), reason == 0 ? -4 : reason);
        long states = x.count(4);
        int made = x.carry();
        Due.dueTrue("carry of " + text, reason == 0 ? made >= 0 : made == -2);
        Due.dueTrue("blows of " + text, reason == 0 || x.count(3) == 0 && x.count(4) == states);
    }

    private static void possible() {
        Words.of("blows, each followed by \";\": the number of a pile (1 digit), \":\", a fall (3 or 4 digits), and, "
            + "for several blows alike, \"*\" and how many (1 or 2 digits).");
        String[] texts = {"0:100;", "1:999;", "0:1000;", "1:3000;", "0:0100;", "0:0999;", "0:100*1;", "0:100*9;",
            "0:100*10;", "0:100*40;", "0:100*01;", "0:100*09;", "0:3000*40;", "0:100;1:100;", "0:100*2;1:0100*02;0:200;"};
        for (String text : texts) {
            dueFault(text, 0, 0);
        }
    }

    private static void formOfPile() {
        Words.of("its reason is 1 if it is not of this form");
        String[] texts = {":100;", "00:100;", "01:100;", "a:100;", " 0:100;", "0 :100;", "/:100;", "::100;", "-:100;",
            "-1:100;", "0;100;", "0100;", "0.100;", "0*100;", "0::100;", ";", ";0:100;", "*", " ", "0;", "0:;"};
        for (String text : texts) {
            dueFault(text, 0, 1);
        }
    }

    private static void formOfFall() {
        Words.of("a fall (3 or 4 digits)");
        String[] texts = {"0:1;", "0:10;", "0:99;", "0:10000;", "0:00100;", "0:010000;", "0:a00;", "0:1a0;", "0:10a;", "0:10/;",
            "0:10:;", "0:1000:;", "0: 100;", "0:100 ;", "0:+100;", "0:-100;", "0:1.0;", "0:*1;", "0:10*1;", "0:10000*1;"};
        for (String text : texts) {
            dueFault(text, 0, 1);
        }
        dueFault("0:100;", 0, 0);
        dueFault("0:1000;", 0, 0);
    }

    private static void formOfTimes() {
        Words.of("\"*\" and how many (1 or 2 digits).");
        String[] texts = {"0:100*;", "0:1000*;", "0:100*100;", "0:100*001;", "0:100*a;", "0:100*1a;", "0:100*/;", "0:100*:;",
            "0:100*-1;", "0:100*+1;", "0:100* 1;", "0:100*1 ;", "0:100**1;", "0:100*1*1;", "0:100+1;", "0:100)1;", "0:100x1;"};
        for (String text : texts) {
            dueFault(text, 0, 1);
        }
        dueFault("0:100*1;", 0, 0);
        dueFault("0:100*11;", 0, 0);
    }

    private static void formOfEnd() {
        Words.of("(also if its \";\" is missing)");
        String[] texts = {"0", "0:", "0:1", "0:10", "0:100", "0:1000", "0:1000*", "0:1000*4", "0:1000*40", "0:100:", "0:100<",
            "0:100,", "0:100*4:", "0:100 1:100;", "0:1001:100;", "0:100*41:100;"};
        for (String text : texts) {
            dueFault(text, 0, 1);
            dueFault("1:200;" + text, 6, 1);
        }
        PileSets x = Made.plain(5000);
        StringBuilder text = new StringBuilder();
        for (int i = 0; i < 8; i++) {
            text.append("0:0100*01;");
        }
        Made.write(x, text.toString());
        Due.due("all 80 characters", x.fault(0), -4);
        Due.due("carried", x.carry(), 8);
        x.clearText();
        Made.write(x, text.substring(0, 70) + "0:0100*012");
        Due.due("without the last one", x.fault(0), 70);
        Due.due("without the last one", x.fault(1), 1);
    }

    private static void positions() {
        Words.of("The fault of the text is the position, from 0, of the first character of the first such part "
            + "that is not possible;");
        dueFault("x", 0, 1);
        dueFault("0:100;x", 6, 1);
        dueFault("0:100;;", 6, 1);
        dueFault("0:100;1:1000*40;x0:100;y", 16, 1);
        dueFault("0:100;2:100;x", 6, 2);
        dueFault("0:100;0:3001;2:100;x", 6, 3);
        dueFault("2:100;0:3001;", 0, 2);
        PileSets x = Made.plain(5000);
        Made.write(x, "0:100;0:100;0:100;0:100;0:100;0:100;0:100;0:100;0:100;0:100;0:100;0:100;0:1000;0");
        Due.due("the last character", x.fault(0), 79);
        x.clearText();
        Made.write(x, ";;;;;;;;;;;;;;;;;;;;;;;;;;;;;;;;;;;;;;;;;;;;;;;;;;;;;;;;;;;;;;;;;;;;;;;;;;;;;;;;");
        Due.due("the first character", x.fault(0), 0);
    }

    private static void noSuchPile() {
        Words.of("2 if there is no such pile,");
        dueFault("1:100;", 0, 0);
        dueFault("2:100;", 0, 2);
        dueFault("9:3000*40;", 0, 2);
        PileSets x = new PileSets();
        Made.write(x, "0:100;1:100;9:100;");
        for (int piles = 0; piles < 10; piles++) {
            Due.due("position with " + piles, x.fault(0), piles == 0 ? 0 : piles == 1 ? 6 : 12);
            Due.due("reason with " + piles, x.fault(1), 2);
            Due.due("carry with " + piles, x.carry(), -2);
            x.pile(piles, 0, 5000);
        }
        Due.due("position with all ten", x.fault(0), -4);
        Due.due("carry with all ten", x.carry(), 3);
        x.undo();
        x.undo();
        Due.due("position with nine again", x.fault(0), 12);
        Due.due("reason with nine again", x.fault(1), 2);
    }

    private static void outOfRange() {
        Words.of("3 if the fall is out of its range or there are not 1 to 40 blows;");
        for (String fall : new String[] {"000", "099", "0000", "0099", "3001", "9999"}) {
            dueFault("0:" + fall + ";", 0, 3);
            dueFault("0:" + fall + "*1;", 0, 3);
        }
        for (String fall : new String[] {"100", "0100", "3000"}) {
            dueFault("0:" + fall + ";", 0, 0);
        }
        for (String times : new String[] {"0", "00", "41", "99"}) {
            dueFault("0:100*" + times + ";", 0, 3);
            dueFault("1:3000*" + times + ";", 0, 3);
        }
        for (String times : new String[] {"1", "01", "40"}) {
            dueFault("0:100*" + times + ";", 0, 0);
        }
    }

    private static void firstThatApplies() {
        Words.of("the first one of these that applies.");
        dueFault("2:3001", 0, 1);
        dueFault("2:3001*41", 0, 1);
        dueFault("2:3001*411;", 0, 1);
        dueFault("0:3001", 0, 1);
        dueFault("0:100*41", 0, 1);
        dueFault("2:3001;", 0, 2);
        dueFault("2:100*41;", 0, 2);
        dueFault("2:099*00;", 0, 2);
        dueFault("0:099*00;", 0, 3);
        dueFault("9:99;", 0, 1);
    }

    private static void whats() {
        Words.of("`int fault(int what)`: Tells about the fault of the text.");
        PileSets x = Made.plain(5000);
        Made.write(x, "0:100;0:3001;");
        Words.of("- `what`: 0: its position; 1: its reason");
        Due.due("0", x.fault(0), 6);
        Due.due("1", x.fault(1), 3);
        Words.of("Returns that; INVALID_ARGUMENT if what is out of range;");
        for (int what : new int[] {NEAR_END, -1, 2, FAR}) {
            Due.due("fault(" + what + ")", x.fault(what), -1);
            Due.due("fault(" + what + ") of none", new PileSets().fault(what), -1);
        }
    }

    private static void noFault() {
        Words.of("NOT_FOUND if the text has no fault (also if it is empty).");
        PileSets x = Made.plain(5000);
        Due.due("empty, position", x.fault(0), -4);
        Due.due("empty, reason", x.fault(1), -4);
        Made.write(x, "0:100;");
        Due.due("one part, position", x.fault(0), -4);
        Due.due("one part, reason", x.fault(1), -4);
        x.type('0');
        Due.due("a fault", x.fault(0), 6);
        x.clearText();
        Due.due("emptied, position", x.fault(0), -4);
        Due.due("emptied, reason", x.fault(1), -4);
        Due.due("empty without piles", new PileSets().fault(0), -4);
    }

    private static void passedOver() {
        Words.of("When the text is carried out, blows on a pile that can not be struck are passed over, and not counted.");
        PileSets x = Made.plain(1000, 5000);
        x.set(5, 0);
        Made.write(x, "0:500*40;1:300;0:500;1:300*2;");
        Due.due("two and three", x.carry(), 5);
        Due.due("blows of 0", x.pileOf(0, 4), 2);
        Due.due("blows of 1", x.pileOf(1, 4), 3);
        Due.due("all blows", x.count(3), 5);
        Due.due("the other ones", x.carry(), 3);
        Due.due("foot of 0", x.pileOf(0, 3), 1000);
        PileSets y = Made.plain(1000, 5000);
        y.set(5, 10);
        Made.write(y, "0:500*2;1:500*3;0:500*9;");
        // The third blow on pile 1 comes to 1500 and lifts pile 0 by 50, which one blow of the last ones brings back.
        Due.due("struck again", y.carry(), 2 + 3 + 1);
        Due.due("at its length again", y.pileOf(0, 3), 1000);
        PileSets z = Made.plain(1000);
        Made.pressTo(z, 0, 1000);
        Made.write(z, "0:500;0:500*40;");
        Due.due("all passed over", z.carry(), 0);
        Due.due("no blow", z.count(3), 0);
        PileSets one = Made.plain(1000);
        Made.pressTo(one, 0, 999);
        Made.write(one, "0:500*2;");
        Due.due("one is left", one.carry(), 1);
    }

    private static void carried() {
        Words.of("`int carry()`: Carries the text out, which stays. It is one change.");
        PileSets x = Made.plain(50000, 50000);
        x.set(4, 0);
        x.undo();
        Made.write(x, "0:200*2;1:0300;0:100;");
        Due.due("states ahead", x.count(4), 3);
        Words.of("Returns how many blows were made;");
        Due.due("four", x.carry(), 4);
        Due.due("states behind", x.count(4), 4);
        Due.due("the text stays", x.count(5), 21);
        int[] sets = {100, 200, 200, -4};
        for (int index = 0; index < sets.length; index++) {
            Due.due("set " + index + " of 0, from the latest", x.blow(0, index, 0), sets[index]);
        }
        Due.due("set of 1", x.blow(1, 0, 0), 300);
        Due.due("blows of 1", x.pileOf(1, 4), 1);
        Due.due("undo of all", x.undo(), 3);
        Due.due("no blows", x.count(3), 0);
        Due.due("four again", x.carry(), 4);
        x.clearText();
        Made.write(x, "0:100*40;0:100*40;0:100*40;0:100*40;0:100*40;0:100*40;0:100*40;0:100*40;");
        Due.due("as many as a text holds", x.carry(), 320);
        Due.due("40 kept", x.pileOf(0, 12), 40);
        PileSets y = new PileSets();
        Due.due("an empty text", y.carry(), 0);
        Due.due("is carried out", y.count(4), 1);
    }

    private static void carriedInVain() {
        Words.of("NOT_POSSIBLE if it has a fault.");
        PileSets x = Made.plain(5000);
        Made.write(x, "0:100*9;0:100");
        long[] before = Look.at(x);
        Due.due("a fault at the end", x.carry(), -2);
        Look.dueAlike("behind it", Look.at(x), before);
        x.type(';');
        Due.due("none then", x.carry(), 10);
        PileSets y = new PileSets();
        y.type('0');
        Due.due("no change yet", y.carry(), -2);
        Due.due("no state", y.count(4), 0);
    }
}

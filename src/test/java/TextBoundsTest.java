/**
 * The boundary cases of promises 1 to 5: THE TEXT, THE RIVER and THE PLAN with their FAULTS.
 * Each test stands on the last value that is allowed and on the first that is not.
 */
public final class TextBoundsTest {
    private static final int NONE = Due.NONE, OUTSIDE = Due.OUTSIDE, NOT = Due.NOT, FULL = Due.FULL, UNKNOWN = Due.UNKNOWN;
    private static final String LAKE = "lake 0 1 0;";
    private static final String ROW = "1,1,1,1,1,1,1,1,1,1,1,1,1,1,1,1,1,1,1,1,1,1,1,1";
    private static final long BLANKS = 0x2020202020202020L;

    public static void main(String[] args) {
        newObject();
        feedOneToEight();
        feedHighestFirst();
        feedToFourHundred();
        textOfFourHundred();
        riverOfBlanks();
        riverBecomes();
        riverAnew();
        lakeFirst();
        basinBounds("lake ", "");
        basinBounds(LAKE + "pond ", LAKE);
        ponds();
        rain();
        tide();
        gates();
        onceEach();
        gateBehindPonds();
        numbersAndWords();
        everyLetter();
        everyByte();
        endOfTheText();
        leastOfFaults();
        firstOfFaults();
        riverThatFaults();
        planClauses();
        planBounds();
        planHours();
        planFaults();
        planNot();
        faultByte();
        Due.end();
    }

    /** A river without a fault: so many NODES, THE TEXT empty, no fault. */
    private static TurnedRiver good(String text, int nodes) {
        TurnedRiver x = Bounds.quiet();
        Due.feed(x, text);
        Due.is("river " + text, x.river(), nodes);
        Due.is("fault of " + text, x.fault(), NONE);
        Due.is("text behind " + text, x.told(2), 0);
        return x;
    }

    /** A river with a FAULT: all is as it was, but that THE TEXT is empty. */
    private static void bad(String text, int number, int at) {
        TurnedRiver x = Bounds.quiet();
        Due.feed(x, text);
        Due.is("river " + text, x.river(), -10 - number);
        Due.is("fault of " + text, x.fault(), at);
        Due.is("text behind " + text, x.told(2), 0);
        Due.same("as it was behind " + text, Bounds.wholeButFault(x), Bounds.wholeButFault(Bounds.quiet()));
    }

    private static TurnedRiver goodPlan(String text, int clauses) {
        TurnedRiver x = Due.of(Bounds.STILL);
        Due.feed(x, text);
        Due.is("plan " + text, x.plan(), clauses);
        Due.is("fault of " + text, x.fault(), NONE);
        Due.is("text behind " + text, x.told(2), 0);
        Due.is("clauses of " + text, x.told(1), clauses);
        return x;
    }

    private static void badPlan(String text, int number, int at) {
        TurnedRiver x = Bounds.quiet();
        Due.feed(x, text);
        Due.is("plan " + text, x.plan(), -10 - number);
        Due.is("fault of " + text, x.fault(), at);
        Due.is("text behind " + text, x.told(2), 0);
        Due.same("as it was behind " + text, Bounds.wholeButFault(x), Bounds.wholeButFault(Bounds.quiet()));
    }

    private static void newObject() {
        Due.says("1 TurnedRiver()", "No NODES.");
        TurnedRiver x = new TurnedRiver();
        for (int what = 0; what <= 6; what++) {
            Due.is("told " + what, x.told(what), 0);
        }
        Due.is("node 0", x.node(0, 0), UNKNOWN);
        Due.is("gate 0", x.gate(0, 0), UNKNOWN);
        Due.is("gate -1", x.gate(-1, 0), UNKNOWN);
        Due.is("fault", x.fault(), NONE);
        Due.is("seed", x.seed(0), 0);
        Due.is("image 0", x.goBack(0), NOT);
        Due.is("image 1", x.goBack(1), NOT);
    }

    private static void feedOneToEight() {
        Due.says("2 feed", "Up to eight bytes (n 1 .. 8) of a long");
        for (int n = 1; n <= 8; n++) {
            Due.is("feed of " + n, new TurnedRiver().feed(n, BLANKS), n);
        }
        for (int n : new int[] {0, 9, -1, Bounds.LEAST, Bounds.MOST}) {
            Bounds.refuses(Bounds::busy, "feed of " + n, OUTSIDE, x -> x.feed(n, BLANKS));
            Bounds.refuses(TurnedRiver::new, "feed of " + n, OUTSIDE, x -> x.feed(n, BLANKS));
        }
    }

    private static void feedHighestFirst() {
        Due.says("2 feed", "the highest of these first, come behind THE TEXT");
        for (int n = 1; n <= 8; n++) {
            for (int at = 0; at < n; at++) {
                TurnedRiver x = new TurnedRiver();
                x.feed(3, 0x202020L);
                // One byte is no blank; what stands above the n bytes does not come.
                long bytes = BLANKS & ~(255L << 8 * (n - 1 - at)) | 0xffL << 8 * (n - 1 - at);
                long above = n == 8 ? 0 : -1L << 8 * n;
                Due.is("feed of " + n, x.feed(n, bytes | above), 3 + n);
                Due.is("river", x.river(), -11);
                Due.is("byte " + at + " of " + n, x.fault(), 3 + at);
            }
            TurnedRiver x = new TurnedRiver();
            x.feed(n, BLANKS | (n == 8 ? 0 : -1L << 8 * n));
            Due.is("what is above " + n + " bytes is not seen", x.river(), 0);
        }
    }

    private static void feedToFourHundred() {
        Due.says("2 feed", "OUTSIDE, FULL (400).");
        for (int size = 1; size <= 8; size++) {
            int n = size;
            TurnedRiver x = new TurnedRiver();
            Due.feed(x, " ".repeat(400 - n));
            Due.is("feed of " + n + " to 400", x.feed(n, BLANKS), 400);
            Due.is("bytes", x.told(2), 400);
            Bounds.refuses(() -> fedTo(401 - n), "feed of " + n + " to 401", FULL, y -> y.feed(n, BLANKS));
            Bounds.refuses(Bounds::filled, "feed of " + n + " to a full text", FULL, y -> y.feed(n, BLANKS));
        }
        for (int n : new int[] {0, 9, -1, Bounds.LEAST, Bounds.MOST}) {
            Bounds.refuses(Bounds::filled, "OUTSIDE ahead of FULL, " + n, OUTSIDE, x -> x.feed(n, BLANKS));
        }
        TurnedRiver x = Bounds.filled();
        x.river();
        Due.is("room again behind river()", x.feed(8, BLANKS), 8);
    }

    private static TurnedRiver fedTo(int bytes) {
        TurnedRiver x = Bounds.quiet();
        Due.feed(x, LAKE + " ".repeat(bytes - LAKE.length()));
        return x;
    }

    private static void textOfFourHundred() {
        Due.says("Terms 1", "THE RIVER is told in a text (400 bytes at most)");
        good(" ".repeat(389) + LAKE, 2);
        bad(" ".repeat(390) + "lake 0 1 0", 1, 400);
        bad(" ".repeat(388) + LAKE + "x", 1, 399);
        bad(LAKE + " ".repeat(388) + ";", 1, 399);
        Due.says("Terms 1", "THE PLAN is told in a text (400 bytes at most)");
        goodPlan(" ".repeat(391) + "at 0 0 1;", 1);
        goodPlan("at 0 0 1;" + " ".repeat(391), 1);
        badPlan(" ".repeat(392) + "at 0 0 1", 1, 400);
        badPlan("at 0 0 1;" + " ".repeat(390) + ";", 1, 399);
    }

    private static void riverOfBlanks() {
        Due.says("3 river", "how many NODES (0 of nothing but blanks)");
        for (String text : new String[] {"", " ", " ".repeat(399), " ".repeat(400)}) {
            TurnedRiver x = good(text, 0);
            for (int what = 0; what <= 6; what++) {
                Due.is("told " + what, x.told(what), 0);
            }
            Due.is("node", x.node(0, 0), UNKNOWN);
            Due.is("gate", x.gate(0, 0), UNKNOWN);
            Due.is("go", x.go(1), NOT);
            Due.is("images", x.goBack(0) + (long) x.goBack(1), 2L * NOT);
        }
        bad(" \0", 1, 1);
        bad(" ".repeat(399) + "\n", 1, 399);
    }

    private static void riverBecomes() {
        Due.says("3 river", "THE HOUR 0, no PLAN, LOGS, BOOK, nothing GROUND; IMAGES are gone");
        TurnedRiver x = good(Bounds.SMALL, 3);
        int[] want = {3, 0, 0, 0, 0, 0, 43};
        for (int what = 0; what <= 6; what++) {
            Due.is("told " + what, x.told(what), want[what]);
        }
        for (int k = 0; k < 2; k++) {
            for (int what = 2; what <= 4; what++) {
                Due.is("gate " + k + " " + what, x.gate(k, what), 0);
            }
        }
        Due.is("image 0", x.goBack(0), NOT);
        Due.is("image 1", x.goBack(1), NOT);
        Due.is("wood", x.wood(0, 0), UNKNOWN);
        x.width(0, 0);
        x.go(10);
        Due.is("the plan of old is not heard", x.gate(0, 0), 0);
        TurnedRiver y = good(LAKE, 2);
        Due.is("gate 1 is gone", y.gate(1, 0), UNKNOWN);
        Due.is("width of old is gone", y.gate(0, 0), 5);
        Due.is("toll of old is gone", y.gate(0, 1), 1);
        Due.is("tide of old is gone", y.tried(1, 2, 1), 0);
    }

    /** Nothing of an earlier river, nor of a text with a FAULT, is left in a later one. */
    private static void riverAnew() {
        Due.says("3 river", "THE TEXT (it is empty then) becomes THE RIVER");
        StringBuilder full = new StringBuilder("lake 9 9 9;rain 99,99;tide 9,9;");
        for (int i = 0; i < 8; i++) {
            full.append("pond 8 8 8;");
        }
        full.append("gate 0 0 7;gate 1 0 7;");
        TurnedRiver x = new TurnedRiver();
        for (int i = 0; i < 3; i++) {
            Due.is("the most NODES", Due.river(x, full.toString()), 10);
            Due.is("a FAULT behind all of it", Due.river(x, full + "x"), -11);
            Due.is("the least NODES", Due.river(x, "lake 5 1 6;"), 2);
            int[][] want = {{5, 1, 6, 11, 0}, {0, 0, 0, 0, 0}};
            for (int what = 0; what <= 4; what++) {
                Due.is("the lake " + what, x.node(0, what), want[0][what]);
                Due.is("the sea " + what, x.node(1, what), want[1][what]);
            }
            Due.is("WIDTH untold", x.gate(0, 0), 5);
            Due.is("TOLL untold", x.gate(0, 1), 1);
            Due.is("tide untold", x.tried(1, 2, 1), 0);
            Due.is("rain untold", x.tried(2, 0, 0), 0);
            Due.is("WATER of all", x.told(6), 6);
        }
    }

    private static void lakeFirst() {
        Due.says("Terms 1", "clauses: 'lake' F A V ';' first");
        good(LAKE, 2);
        good(LAKE + "pond 0 1 0;", 3);
        Due.says("Terms 1", "1 it cannot stand there .. anything ahead of the 'lake': at its first letter");
        for (String word : new String[] {"pond", "rain", "tide", "gate", "at", "a", "z", "lak", "lakes", "lakelake"}) {
            bad(word + " 0 1 0;" + LAKE, 1, 0);
            bad("  " + word, 1, 2);
        }
        for (String sign : new String[] {";", ",", "0", "9999", "10000", "-", "A", "\u00ff"}) {
            bad(sign + LAKE, 1, 0);
            bad("   " + sign, 1, 3);
        }
    }

    /** FLOOR, AREA and WATER of the clause that text begins; ahead of it stands what begins with a 'lake'. */
    private static void basinBounds(String text, String ahead) {
        Due.says("Terms 1", "FLOOR 0 .. 999, AREA 1 .. 99, WATER 0 .. 9999");
        int nodes = ahead.isEmpty() ? 2 : 3;
        int k = nodes - 2;
        int at = text.length();
        int[][] edges = {{0, 1, 0}, {999, 1, 0}, {0, 99, 0}, {0, 1, 9999}, {999, 99, 9999}};
        for (int[] e : edges) {
            TurnedRiver x = good(text + e[0] + " " + e[1] + " " + e[2] + ";", nodes);
            for (int what = 0; what < 3; what++) {
                Due.is("node " + k + " " + what, x.node(k, what), e[what]);
            }
            Due.is("level", x.node(k, 3), e[0] + e[2] / e[1]);
        }
        bad(text + "1000 1 0;", 2, at);
        bad(text + "9999 1 0;", 2, at);
        bad(text + "-1 1 0;", 1, at);
        bad(text + "0 0 0;", 2, at + 2);
        bad(text + "0 0000 0;", 2, at + 2);
        bad(text + "0 100 0;", 2, at + 2);
        bad(text + "0 -1 0;", 1, at + 2);
        bad(text + "0 1 10000;", 2, at + 4);
        bad(text + "0 1 -1;", 1, at + 4);
        bad(text + ";", 1, at);
        bad(text + "0;", 1, at + 1);
        bad(text + "0 1;", 1, at + 3);
        bad(text + "0 1 0 0;", 1, at + 6);
        bad(text + "0,1,0;", 1, at + 1);
        bad(text + "0 1 0,", 1, at + 5);
    }

    private static void ponds() {
        Due.says("Terms 1", "'pond' F A V ';' as often as one likes (8 PONDS at most)");
        StringBuilder s = new StringBuilder(LAKE);
        for (int p = 0; p <= 8; p++) {
            TurnedRiver x = good(s.toString(), p + 2);
            Due.is("floor of the last pond", x.node(p, 0), p == 0 ? 0 : p);
            Due.is("the sea has no area", x.node(p + 1, 1), 0);
            Due.is("below the sea", x.node(p + 2, 1), UNKNOWN);
            Due.is("the last gate", x.gate(p, 0), 5);
            Due.is("no gate below the sea", x.gate(p + 1, 0), UNKNOWN);
            s.append("pond ").append(p + 1).append(" 1 0;");
        }
        Due.says("Terms 1", "3 .. a ninth POND .. (at its first letter)");
        int ninth = s.length() - "pond 9 1 0;".length();
        bad(s.toString(), 3, ninth);
        bad(s.substring(0, ninth + 4), 3, ninth);
        bad(s.substring(0, ninth) + "  pond 1000 0 x", 3, ninth + 2);
        good(s.substring(0, ninth) + "rain 1;tide 1;gate 8 0 0;", 10);
        bad(s.substring(0, ninth) + "rain 1;tide 1;pond 0 1 0;", 3, ninth + 14);
    }

    private static void rain() {
        Due.says("Terms 1", "'rain' G {',' G} ';' (of hours 0 and on of a day, 24 at most: G 0 .. 99");
        for (int n : new int[] {1, 2, 23, 24}) {
            TurnedRiver x = good("lake 0 1 0;gate 0 0 0;rain " + "51,".repeat(n - 1) + "51;", 2);
            Due.is("rain of " + n + " hours", x.tried(24, 0, 0), n);
            Due.is("rain of " + n + " hours of the next day", x.tried(25, 0, 0), n + 1);
        }
        Due.says("Terms 1", "G less 50 comes to the lake; 50 untold, each");
        int[] told = {0, 1, 49, 50, 51, 98, 99};
        for (int g : told) {
            TurnedRiver x = good("lake 0 1 100;pond 0 1 7;gate 0 0 0;gate 1 0 0;rain 50," + g + ";", 3);
            Due.is("50", x.tried(1, 0, 0), 100);
            Due.is("rain " + g, x.tried(2, 0, 0), 100 + g - 50);
            Due.is("50 untold", x.tried(25, 0, 0), 100 + g - 50);
            Due.is("no rain in a pond", x.tried(2, 0, 1), 7);
        }
        bad(LAKE + "rain 100;", 2, 16);
        bad(LAKE + "rain 99,100;", 2, 19);
        bad(LAKE + "rain -1;", 1, 16);
        bad(LAKE + "rain;", 1, 15);
        bad(LAKE + "rain ,1;", 1, 16);
        bad(LAKE + "rain 1,;", 1, 18);
        bad(LAKE + "rain 1,,1;", 1, 18);
        bad(LAKE + "rain 1 1;", 1, 18);
        tooMany("rain", "99", "100");
    }

    private static void tide() {
        Due.says("Terms 1", "'tide' H {',' H} ';' (likewise, 0 .. 999; 0 untold, each)");
        for (int n : new int[] {1, 2, 23, 24}) {
            TurnedRiver x = good("lake 0 1 0;gate 0 0 0;tide " + "7,".repeat(n - 1) + "9;", 2);
            Due.is("tide of hour 0", x.node(1, 3), n == 1 ? 9 : 7);
            for (int h = 1; h <= 24; h++) {
                int due = h == 24 ? n == 1 ? 9 : 7 : h < n - 1 ? 7 : h == n - 1 ? 9 : 0;
                Due.is("tide of hour " + h + " of " + n, x.tried(h, 2, 1), due);
            }
        }
        for (int h : new int[] {0, 1, 998, 999}) {
            Due.is("tide " + h, good(LAKE + "tide " + h + ";", 2).node(1, 3), h);
        }
        bad(LAKE + "tide 1000;", 2, 16);
        bad(LAKE + "tide 999,1000;", 2, 20);
        bad(LAKE + "tide -1;", 1, 16);
        bad(LAKE + "tide;", 1, 15);
        bad(LAKE + "tide ,1;", 1, 16);
        bad(LAKE + "tide 1,;", 1, 18);
        bad(LAKE + "tide 1 1;", 1, 18);
        tooMany("tide", "999", "1000");
    }

    private static void tooMany(String word, String most, String more) {
        Due.says("Terms 1", "4 a NUMBER too many in its row .. (at it)");
        good(LAKE + word + " " + ROW + ";", 2);
        bad(LAKE + word + " " + ROW + ",1;", 4, 64);
        bad(LAKE + word + " " + ROW + ", " + most, 4, 65);
        bad(LAKE + word + " " + ROW + ",1,1,x", 4, 64);
        bad(LAKE + word + " " + ROW + "," + more + ";", 2, 64);
        bad(LAKE + word + " " + ROW + ",00001;", 2, 64);
        bad(LAKE + word + " " + ROW + ",;", 1, 64);
        bad(LAKE + word + " " + ROW + ",", 1, 64);
        bad(LAKE + word + " " + ROW + " 1;", 1, 64);
        bad(LAKE + word + " " + ROW, 1, 63);
    }

    private static void gates() {
        Due.says("Terms 1", "'gate' K W T ';' (of GATE K: WIDTH 0 .. 9, TOLL 0 .. 99; 5 1 untold)");
        StringBuilder s = new StringBuilder(LAKE);
        for (int p = 0; p <= 8; p++) {
            for (int w : new int[] {0, 9}) {
                int t = w * 11;
                TurnedRiver x = good(s + "gate " + p + " " + w + " " + t + ";", p + 2);
                Due.is("width of the last gate", x.gate(p, 0), w);
                Due.is("toll of the last gate", x.gate(p, 1), t);
                for (int k = 0; k < p; k++) {
                    Due.is("width untold", x.gate(k, 0), 5);
                    Due.is("toll untold", x.gate(k, 1), 1);
                }
            }
            Due.is("width of gate 0", good(s + "gate 0 1 2;", p + 2).gate(0, 0), 1);
            bad(s + "gate " + (p + 1) + " 1 1;", 2, s.length() + 5);
            bad(s + "gate " + (p + 1) + "x", 2, s.length() + 5);
            s.append("pond 0 1 0;");
        }
        Due.says("Terms 1", "2 a NUMBER .. out of its bounds; a GATE that there is not (at its first)");
        bad(LAKE + "gate 9999 1 1;", 2, 16);
        bad(LAKE + "gate 00000 1 1;", 2, 16);
        bad(LAKE + "gate -1 1 1;", 1, 16);
        bad(LAKE + "gate 0 10 1;", 2, 18);
        bad(LAKE + "gate 0 -1 1;", 1, 18);
        bad(LAKE + "gate 0 9 100;", 2, 20);
        bad(LAKE + "gate 0 9 -1;", 1, 20);
        bad(LAKE + "gate;", 1, 15);
        bad(LAKE + "gate 0;", 1, 17);
        bad(LAKE + "gate 0 1;", 1, 19);
        bad(LAKE + "gate 0 1 1 1;", 1, 22);
        bad(LAKE + "gate 0 1 1,", 1, 21);
    }

    private static void onceEach() {
        Due.says("Terms 1", "'rain', 'tide', each GATE once");
        String two = LAKE + "pond 0 1 0;";
        good(two + "rain 1;tide 1;gate 0 1 1;gate 1 1 1;", 3);
        good(two + "gate 1 1 1;gate 0 1 1;tide 1;rain 1;", 3);
        Due.says("Terms 1", "3 a clause that was told already .. (at its first letter); a GATE again (at it)");
        bad(LAKE + LAKE, 3, 11);
        bad(LAKE + "  lake", 3, 13);
        bad(two + LAKE, 3, 22);
        bad(LAKE + "gate 0 1 1;" + LAKE, 3, 22);
        bad(LAKE + "rain 1;rain 1;", 3, 18);
        bad(LAKE + "rain 1;tide 1;rain", 3, 25);
        bad(LAKE + "tide 1;tide 1;", 3, 18);
        bad(LAKE + "tide 1;rain 1; tide 1000", 3, 26);
        bad(two + "gate 0 1 1;gate 0 1 1;", 3, 38);
        bad(two + "gate 1 1 1;gate 0 1 1;gate 1", 3, 49);
        bad(two + "gate 0 1 1;gate  0000 99 x", 3, 39);
        StringBuilder all = new StringBuilder(LAKE);
        for (int i = 0; i < 8; i++) {
            all.append("pond 0 1 0;");
        }
        for (int k = 8; k >= 0; k--) {
            all.append("gate ").append(k).append(" 1 1;");
        }
        good(all.toString(), 10);
        for (int k = 0; k <= 8; k++) {
            bad(all + "gate " + k + " 1 1;", 3, all.length() + 5);
        }
    }

    private static void gateBehindPonds() {
        Due.says("Terms 1", "'gate' behind all 'pond'");
        good(LAKE + "rain 1;pond 0 1 0;tide 1;pond 0 1 0;gate 2 0 0;", 4);
        good(LAKE + "pond 0 1 0;gate 0 0 0;rain 1;tide 1;gate 1 0 0;", 3);
        Due.says("Terms 1", "1 .. a 'pond' behind a 'gate' .. at its first letter");
        bad(LAKE + "gate 0 0 0;pond 0 1 0;", 1, 22);
        bad(LAKE + "pond 0 1 0;gate 1 0 0; pond", 1, 34);
        bad(LAKE + "gate 0 0 0;rain 1;pond 0 1 0;", 1, 29);
        bad(LAKE + "gate 1 0 0;pond 0 1 0;", 2, 16);
    }

    private static void numbersAndWords() {
        Due.says("Terms 1", "NUMBERS have one to four figures");
        Due.is("four figures", good("lake 0009 0009 0009;", 2).node(0, 2), 9);
        Due.is("four figures", good("lake 0999 0099 9999;gate 0000 0009 0099;", 2).gate(0, 1), 99);
        Due.says("Terms 1", "2 a NUMBER of five figures or more");
        bad("lake 00009 1 0;", 2, 5);
        bad("lake 0 00001 0;", 2, 7);
        bad("lake 0 1 00000;", 2, 9);
        bad("lake 0 1 00000", 2, 9);
        bad("lake 0 1 4294967296;", 2, 9);
        bad("lake 0 1 4294967297;", 2, 9);
        bad("lake 0 1 " + "0".repeat(391), 2, 9);
        bad(LAKE + "rain 00000;", 2, 16);
        bad(LAKE + "tide 0,00000;", 2, 18);
        bad(LAKE + "gate 0 00000 0;", 2, 18);
        bad(LAKE + "gate 0 0 00000;", 2, 20);
        Due.says("Terms 1", "blanks (32) may stand anywhere but within words and NUMBERS");
        good("  lake  0  1  0  ;  pond  0  1  0  ;  rain  1  ,  2  ;  tide  1  ,  2  ;  gate  0  1  2  ;  ", 3);
        bad("la ke 0 1 0;", 1, 0);
        bad(LAKE + "po nd 0 1 0;", 1, 11);
        bad(LAKE + "ra in 1;", 1, 11);
        bad(LAKE + "tid e 1;", 1, 11);
        bad(LAKE + "g ate 0 1 1;", 1, 11);
        bad("lake 0 1 1 2;", 1, 11);
        bad(LAKE + "tide 1 2,3;", 1, 18);
        Due.says("Terms 1", "two words, two NUMBERS side by side need one");
        Due.is("none where there are not two", good("lake0 1 0;pond2 1 0;rain1,2;tide3,4;gate0 1 2;", 3).node(2, 3), 3);
        bad("lakelake 0 1 0;", 1, 0);
        bad("lake01 1;", 1, 8);
        bad("lake 0 10;", 1, 9);
        good(LAKE + "gate0 1 0;", 2);
        bad(LAKE + "gate0 10;", 2, 17);
        bad(LAKE + "gate00 1;", 1, 19);
    }

    /** A word with a letter changed, less or more is another word. */
    private static void everyLetter() {
        Due.says("Terms 1", "1 it cannot stand there (a word that cannot .. at its first letter");
        String[] words = {"lake", "pond", "rain", "tide", "gate", "at"};
        String[] clauses = {"0 1 0;", "0 1 0;", "1;", "1;", "0 1 1;", "0 0 1;"};
        for (int i = 0; i < words.length; i++) {
            String word = words[i];
            String ahead = i == 0 || i == 5 ? "" : LAKE;
            for (int at = 0; at < word.length(); at++) {
                String before = word.substring(0, at);
                String after = word.substring(at + 1);
                for (char c : new char[] {'a', 'q', 'z'}) {
                    cannotStand(ahead, before + c + word.substring(at), clauses[i], i == 5);
                    if (word.charAt(at) != c) {
                        cannotStand(ahead, before + c + after, clauses[i], i == 5);
                    }
                }
                cannotStand(ahead, before + after, clauses[i], i == 5);
            }
            cannotStand(ahead, word + "s", clauses[i], i == 5);
        }
    }

    private static void cannotStand(String ahead, String word, String clause, boolean plan) {
        TurnedRiver x = Due.of(Bounds.STILL);
        String text = ahead + word + " " + clause;
        Due.feed(x, text);
        Due.is(text, plan ? x.plan() : x.river(), -11);
        Due.is("fault of " + text, x.fault(), ahead.length());
    }

    /** The bytes beside a .. z, 0 .. 9 and the blank among them. */
    private static void everyByte() {
        Due.says("Terms 1", "words are letters a .. z side by side; blanks (32)");
        for (int b = 0; b < 256; b++) {
            char c = (char) b;
            boolean letter = c >= 'a' && c <= 'z';
            boolean figure = c >= '0' && c <= '9';
            one(LAKE + c, c == ' ' ? NONE : 11);
            one("lake" + c + "0 1 0;", c == ' ' || figure ? NONE : letter ? 0 : 4);
            one("lake 0 1 1" + c + ";", c == ' ' || figure ? NONE : c == ';' ? 11 : 10);
            one("lake 0 1 1" + c, c == ';' ? NONE : c == ' ' || figure ? 11 : 10);
            one(c + LAKE, c == ' ' ? NONE : 0);
            one(LAKE + "tide 1" + c + "2;", figure || c == ',' ? NONE : c == ' ' ? 18 : c == ';' ? 18 : 17);
            one(LAKE + "tide " + c + ";", figure ? NONE : c == ' ' ? 17 : 16);
        }
    }

    /** A FAULT 1 at a byte, or none. */
    private static void one(String text, int at) {
        TurnedRiver x = new TurnedRiver();
        Due.is("river " + text, Due.river(x, text), at == NONE ? 2 : -11);
        Due.is("fault of " + text, x.fault(), at);
    }

    private static void endOfTheText() {
        Due.says("Terms 1", "FAULTS, at the first byte that has one (the end at the text's length)");
        String whole = "lake 0 1 0;pond 0 1 0;rain 1,2;tide 3;gate 1 2 3;";
        good(whole, 3);
        for (int end = 1; end < whole.length(); end++) {
            String text = whole.substring(0, end);
            if (text.endsWith(";")) {
                good(text, text.length() < 12 ? 2 : 3);
                continue;
            }
            // A word that the end cuts short is none of the clauses' words: it has the FAULT at its first letter.
            int word = text.lastIndexOf(';') + 1;
            boolean cut = end - word < 4;
            bad(text, 1, cut ? word : end);
            bad(text + "  ", 1, cut ? word : end + 2);
        }
        String plan = "at 1 0 1;at 2 1 9;";
        goodPlan(plan, 2);
        for (int end = 1; end < plan.length(); end++) {
            String text = plan.substring(0, end);
            if (text.endsWith(";")) {
                goodPlan(text, 1);
                continue;
            }
            int word = text.lastIndexOf(';') + 1;
            boolean cut = end - word < 2;
            badPlan(text, 1, cut ? word : end);
            badPlan(text + " ", 1, cut ? word : end + 1);
        }
    }

    private static void leastOfFaults() {
        Due.says("Terms 1", "FAULTS, at the first byte that has one .. of these the least");
        // 1 and 2: a NUMBER of five figures where none can stand.
        bad("99999", 1, 0);
        bad("lake 0 1 0 99999;", 1, 11);
        bad(LAKE + "99999;", 1, 11);
        bad(LAKE + "rain 1 100;", 1, 18);
        badPlan("99999", 1, 0);
        badPlan("at 0 0 1 99999;", 1, 9);
        // 1 and 3: a ninth POND behind a 'gate'.
        bad(LAKE + "pond 0 1 0;".repeat(8) + "gate 0 1 1;pond 0 1 0;", 1, 110);
        // 1 and 4: a NUMBER too many that no comma parts.
        bad(LAKE + "tide " + ROW + " 1;", 1, 64);
        // 2 and 3: a GATE again, of five figures.
        bad(LAKE + "gate 0 1 1;gate 00000 1 1;", 2, 27);
        // 2 and 4: the 25th of its row out of bounds; an HOUR that is less, of five figures.
        bad(LAKE + "tide " + ROW + ",1000;", 2, 64);
        badPlan("at 5 0 1;at 00004 0 1;", 2, 12);
        badPlan("at 5 0 1;at 1000 0 1;", 2, 12);
    }

    private static void firstOfFaults() {
        Due.says("Terms 1", "FAULTS, at the first byte that has one");
        bad(LAKE + "lake x", 3, 11);
        bad("lake 1000 x", 2, 5);
        bad("lake 0 0 10000,", 2, 7);
        bad(LAKE + "gate 0 1 1;gate 0 x", 3, 27);
        bad(LAKE + "tide " + ROW + ",1 x", 4, 64);
        bad(LAKE + "gate 1 10 100;" + LAKE, 2, 16);
        badPlan("at 5 0 1;at 4 9 x", 4, 12);
        badPlan("at 1000 9 x", 2, 3);
        badPlan("at 0 0 1;".repeat(30) + "at x", 3, 270);
        badPlan("at 0 2 10,", 2, 5);
    }

    private static void riverThatFaults() {
        Due.says("3 river", "-10 less the number of its FAULT (all is as it was)");
        bad("x", 1, 0);
        bad("lake 1000 1 0;", 2, 5);
        bad(LAKE + LAKE, 3, 11);
        bad(LAKE + "rain " + ROW + ",1;", 4, 64);
        TurnedRiver x = new TurnedRiver();
        Due.is("river", Due.river(x, "lake 0 1 0;x"), -11);
        Due.is("no NODES behind it", x.told(0), 0);
        Due.is("nor a lake", x.node(0, 0), UNKNOWN);
    }

    private static void planClauses() {
        Due.says("4 plan", "THE TEXT (it is empty then) becomes THE PLAN: how many clauses");
        goodPlan("", 0);
        goodPlan(" ".repeat(400), 0);
        goodPlan("at 0 0 1;", 1);
        Due.says("Terms 1", "clauses 'at' H K W ';' (30 at most");
        goodPlan("at 0 0 1;".repeat(29), 29);
        TurnedRiver x = goodPlan("at 0 0 1;".repeat(29) + "at 0 0 7;", 30);
        x.go(1);
        Due.is("the thirtieth is heard", x.gate(0, 0), 7);
        Due.is("plan of nothing", x.plan(), 0);
        Due.is("no clauses", x.told(1), 0);
        TurnedRiver y = goodPlan("at 1 0 1;at 1 1 1;at 2 0 3;", 3);
        for (int i = 0; i < 3; i++) {
            Due.is("a plan anew", Due.plan(y, "at 1 0 7;"), 1);
            Due.is("a FAULT behind a clause", Due.plan(y, "at 1 1 5;at 2 0 5;x"), -11);
            Due.is("clauses", y.told(1), 1);
        }
        y.go(3);
        Due.is("by the plan anew", y.gate(0, 0), 7);
        Due.is("no other is heard", y.gate(1, 0), 0);
        Due.says("Terms 1", "3 .. a 31st 'at' (at its first letter)");
        badPlan("at 0 0 1;".repeat(31), 3, 270);
        badPlan("at 0 0 1;".repeat(30) + "  at", 3, 272);
        badPlan("at 0 0 1;".repeat(30) + "x", 1, 270);
        goodPlan("at 0 0 1;".repeat(30) + "  ", 30);
    }

    private static void planBounds() {
        Due.says("Terms 1", "HOUR 0 .. 999, none less than the one ahead; GATE, WIDTH");
        for (int h : new int[] {0, 1, 998, 999}) {
            goodPlan("at " + h + " 0 0;", 1);
        }
        for (int w = 0; w <= 9; w++) {
            TurnedRiver x = goodPlan("at 0 1 " + w + ";", 1);
            x.go(1);
            Due.is("width by the plan", x.gate(1, 0), w);
            Due.is("of the other gate", x.gate(0, 0), 0);
        }
        badPlan("at 1000 0 0;", 2, 3);
        badPlan("at 9999 0 0;", 2, 3);
        badPlan("at 00000 0 0;", 2, 3);
        badPlan("at -1 0 0;", 1, 3);
        badPlan("at 0 2 0;", 2, 5);
        badPlan("at 0 9999 0;", 2, 5);
        badPlan("at 0 00000 0;", 2, 5);
        badPlan("at 0 -1 0;", 1, 5);
        badPlan("at 0 0 10;", 2, 7);
        badPlan("at 0 0 00000;", 2, 7);
        badPlan("at 0 0 -1;", 1, 7);
        TurnedRiver most = Bounds.long10();
        Due.is("gate 8 of nine", Due.plan(most, "at 0 8 3;"), 1);
        most.go(1);
        Due.is("its width", most.gate(8, 0), 3);
        Due.is("gate 9 of nine", Due.plan(most, "at 0 9 3;"), -12);
        TurnedRiver least = Due.of(LAKE);
        Due.is("gate 0 of one", Due.plan(least, "at 0 0 3;"), 1);
        Due.is("gate 1 of one", Due.plan(least, "at 0 1 3;"), -12);
        Due.is("its byte", least.fault(), 5);
    }

    private static void planHours() {
        Due.says("Terms 1", "4 .. an HOUR less than the one ahead (at it)");
        goodPlan("at 5 0 1;at 5 0 2;at 6 0 3;", 3);
        goodPlan("at 0 0 1;at 0 0 1;at 999 0 1;at 999 0 1;", 4);
        badPlan("at 5 0 1;at 4 0 2;", 4, 12);
        badPlan("at 5 0 1;at 6 0 1;at 5 0 2;", 4, 21);
        badPlan("at 999 0 1;at 998 0 1;", 4, 14);
        badPlan("at 1 0 1;at  0000", 4, 13);
        Due.says("Terms 2", "An HOUR: first what THE PLAN tells for it (in order) is set");
        TurnedRiver x = goodPlan("at 998 0 3;at 999 0 8;at 999 0 9;at 999 1 4;", 4);
        for (int i = 0; i < 4; i++) {
            x.go(200);
        }
        Due.is("HOUR 998", x.go(198), 998);
        Due.is("not yet", x.gate(0, 0), 0);
        Due.is("HOUR 999", x.go(1), 999);
        Due.is("what is told for 998", x.gate(0, 0), 3);
        Due.is("HOUR 1000", x.go(1), 1000);
        Due.is("the last that is told for 999", x.gate(0, 0), 9);
        Due.is("another gate", x.gate(1, 0), 4);
        x.width(0, 1);
        x.go(200);
        Due.is("nothing behind 999", x.gate(0, 0), 1);
        TurnedRiver late = Due.of(Bounds.STILL);
        late.go(5);
        Due.plan(late, "at 4 0 1;at 5 1 2;");
        late.go(1);
        Due.is("of an HOUR that is past", late.gate(0, 0), 0);
        Due.is("of THE HOUR", late.gate(1, 0), 2);
    }

    private static void planFaults() {
        Due.says("4 plan", "-10 less the number of its FAULT (it is as it was)");
        for (String word : new String[] {"a", "t", "ta", "ate", "atat", "lake", "pond", "rain", "tide", "gate"}) {
            badPlan(word + " 0 0 1;", 1, 0);
            badPlan("at 0 0 1; " + word, 1, 10);
        }
        badPlan("a t 0 0 1;", 1, 0);
        badPlan(";", 1, 0);
        badPlan("at;", 1, 2);
        badPlan("at 0;", 1, 4);
        badPlan("at 0 0;", 1, 6);
        badPlan("at 0 0 1 1;", 1, 9);
        badPlan("at 0,0 1;", 1, 4);
        badPlan("at 0 0 1,", 1, 8);
        badPlan("at 0 0 1;;", 1, 9);
        badPlan("at0 01;", 1, 6);
        goodPlan("at0 0 1;at  0  1  9  ;  ", 2);
    }

    private static void planNot() {
        Due.says("4 plan", "NOT: there are no NODES (THE TEXT stays)");
        Bounds.refuses(Bounds::bare, "plan", NOT, TurnedRiver::plan);
        Bounds.refuses(TurnedRiver::new, "plan", NOT, TurnedRiver::plan);
        TurnedRiver x = Bounds.bare();
        x.plan();
        Due.is("the text stays", x.told(2), 22);
        Due.is("and is told", x.river(), 3);
        Due.is("then it is a plan of nothing", x.plan(), 0);
        Due.river(x, " ");
        Due.is("behind a river of blanks", x.plan(), NOT);
        Due.is("least NODES", Due.river(x, LAKE), 2);
        Due.is("plan", x.plan(), 0);
    }

    private static void faultByte() {
        Due.says("5 fault", "The byte of the FAULT of the latest river() or plan() that was not NOT; NONE.");
        TurnedRiver x = new TurnedRiver();
        Due.is("at first", x.fault(), NONE);
        Due.is("plan", x.plan(), NOT);
        Due.is("behind NOT", x.fault(), NONE);
        Due.river(x, " ".repeat(390) + "lake 0 1 0");
        Due.is("the greatest", x.fault(), 400);
        Due.is("plan", x.plan(), NOT);
        Due.is("behind NOT still", x.fault(), 400);
        Due.river(x, "x");
        Due.is("the least", x.fault(), 0);
        Due.river(x, LAKE);
        Due.is("behind a river without one", x.fault(), NONE);
        Due.plan(x, "at");
        Due.is("of a plan", x.fault(), 2);
        x.feed(0, 0);
        x.feed(1, ' ');
        x.go(1);
        x.goBack(0);
        x.keep(2);
        Due.is("no other call changes it", x.fault(), 2);
        x.plan();
        Due.is("behind a plan without one", x.fault(), NONE);
        Due.plan(x, "y");
        Due.river(x, "");
        Due.is("behind a river of nothing", x.fault(), NONE);
    }
}

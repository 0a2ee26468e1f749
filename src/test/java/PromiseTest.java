/** Each promise by itself: ordinary inputs worked out by hand, the edges, and each refusal (which changes nothing). */
public final class PromiseTest {
    private static final int NONE = Due.NONE, UNKNOWN = Due.UNKNOWN, OUTSIDE = Due.OUTSIDE, NOT = Due.NOT, FULL = Due.FULL;
    /** LEVELS as HOUR 0 begins: 30, 8, 0. */
    private static final String SMALL = "lake 10 2 40;pond 5 1 3;tide 0,20;gate 0 1 4;gate 1 2 7;";

    public static void main(String[] args) {
        newObject();
        feed();
        river();
        riverFaults();
        plan();
        planFaults();
        fault();
        told();
        node();
        gate();
        go();
        flowLimits();
        rain();
        width();
        pour();
        showers();
        log();
        wood();
        clear();
        tried();
        slack();
        boat();
        boatOfLikeWays();
        sent();
        ring();
        drained();
        nearest();
        stopped();
        write();
        tear();
        judge();
        seed();
        keepAndGoBack();
        imagesHold();
        Due.end();
    }

    // Promise 1
    private static void newObject() {
        TurnedRiver x = new TurnedRiver();
        for (int what = 0; what <= 6; what++) {
            Due.is("new told " + what, x.told(what), 0);
        }
        Due.is("new fault", x.fault(), NONE);
        Due.is("new node", x.node(0, 0), UNKNOWN);
        Due.is("new gate", x.gate(0, 0), UNKNOWN);
        Due.is("new seed", x.seed(0), 0);
        Due.is("new clear", x.clear(), 0);
        Due.is("new tear", x.tear(), 0);
        Due.refused(x, "new go", NOT, () -> x.go(1));
        Due.refused(x, "new go 0", OUTSIDE, () -> x.go(0));
        Due.refused(x, "new plan", NOT, x::plan);
        Due.refused(x, "new width", UNKNOWN, () -> x.width(0, 10));
        Due.refused(x, "new pour", UNKNOWN, () -> x.pour(0, -1));
        Due.refused(x, "new showers", NOT, () -> x.showers(1, 1));
        Due.refused(x, "new log", UNKNOWN, () -> x.log(0, 0));
        Due.refused(x, "new wood", UNKNOWN, () -> x.wood(0, 9));
        Due.refused(x, "new tried", UNKNOWN, () -> x.tried(1, 0, 0));
        Due.refused(x, "new slack", UNKNOWN, () -> x.slack(0, 0));
        Due.refused(x, "new boat", UNKNOWN, () -> x.boat(0, 0, 0, -1));
        Due.refused(x, "new sent", UNKNOWN, () -> x.sent(0, 0, 0, 1));
        Due.refused(x, "new ring", UNKNOWN, () -> x.ring(0, 1));
        Due.refused(x, "new drained", UNKNOWN, () -> x.drained(0, 0, 1));
        Due.refused(x, "new nearest", UNKNOWN, () -> x.nearest(0, 0, 1));
        Due.refused(x, "new stopped", NOT, () -> x.stopped(1));
        Due.refused(x, "new judge", NOT, () -> x.judge(0));
        Due.refused(x, "new goBack", NOT, () -> x.goBack(0));
    }

    // Promise 2
    private static void feed() {
        TurnedRiver x = new TurnedRiver();
        Due.is("feed of one byte of eight", x.feed(1, 0x6162636465666720L), 1);
        Due.is("feed 4", x.feed(4, 0x6c616b65L), 5);
        Due.is("feed 8", x.feed(8, 0x2031203220333b20L), 13);
        Due.is("river of ' lake 1 2 3; '", x.river(), 2);
        Due.is("floor", x.node(0, 0), 1);
        Due.is("water", x.node(0, 2), 3);
        for (int n : new int[] {0, 9, -1, Integer.MAX_VALUE, Integer.MIN_VALUE}) {
            Due.refused(x, "feed " + n, OUTSIDE, () -> x.feed(n, 0));
        }
        for (int i = 1; i < 50; i++) {
            Due.is("feed blanks", x.feed(8, 0x2020202020202020L), 8 * i);
        }
        Due.is("feed to 397", x.feed(5, 0x2020202020L), 397);
        Due.refused(x, "feed to 401", FULL, () -> x.feed(4, 0));
        Due.refused(x, "feed 9 to a full text", OUTSIDE, () -> x.feed(9, 0));
        Due.is("feed to 400", x.feed(3, 0x202020L), 400);
        Due.refused(x, "feed to 401 by one", FULL, () -> x.feed(1, 0));
        Due.is("river of 400 blanks", x.river(), 0);
        Due.is("the text is empty", x.told(2), 0);
    }

    // Promise 3
    private static void river() {
        TurnedRiver x = new TurnedRiver();
        Due.is("river of nothing", x.river(), 0);
        Due.is("river of blanks", Due.river(x, "   "), 0);
        Due.is("river without blanks", Due.river(x, "lake0 01 0002;pond3 4 5;gate1 6 7;"), 3);
        Due.is("water 0002", x.node(0, 2), 2);
        Due.is("told gate 1", x.gate(1, 0), 6);
        Due.is("untold gate 0", x.gate(0, 0), 5);
        Due.is("untold toll", x.gate(0, 1), 1);
        Due.is("river with blanks", Due.river(x, "  lake  999  99  9999  ;  tide 999 , 0;gate 0 9 99;rain 99,0 ; "), 2);
        Due.is("greatest floor", x.node(0, 0), 999);
        Due.is("greatest area", x.node(0, 1), 99);
        Due.is("greatest water", x.node(0, 2), 9999);
        Due.is("greatest level", x.node(0, 3), 1100);
        Due.is("greatest tide", x.node(1, 3), 999);
        Due.is("pond behind rain and tide", Due.river(x, "lake 0 1 0;rain 1;pond 0 1 0;tide 1;pond 0 1 0;gate 2 0 0;gate 0 0 0;"), 4);
        Due.is("row of 24", Due.river(x, "lake 0 1 0;tide 1,2,3,4,5,6,7,8,9,10,11,12,13,14,15,16,17,18,19,20,21,22,23,24;"), 2);
        Due.is("the last of 24", x.tried(23, 2, 1), 24);
        Due.is("the first again", x.tried(24, 2, 1), 1);
        StringBuilder most = new StringBuilder("lake 0 1 0;");
        for (int i = 0; i < 8; i++) {
            most.append("pond ").append(i).append(" 1 0;");
        }
        Due.is("eight ponds and gate 8", Due.river(x, most + "gate 8 3 4;"), 10);
        Due.is("gate 8", x.gate(8, 1), 4);
        Due.is("no gate 9", x.gate(9, 1), UNKNOWN);
        riverForgets(x);
    }

    private static void riverForgets(TurnedRiver x) {
        Due.is("river", Due.river(x, SMALL), 3);
        Due.is("plan", Due.plan(x, "at 5 0 9;"), 1);
        x.log(0, 1);
        x.write(40);
        x.go(3);
        x.keep(0);
        x.keep(1);
        x.seed(77);
        Due.is("river again", Due.river(x, SMALL), 3);
        for (int what : new int[] {1, 2, 3, 4, 5}) {
            Due.is("forgotten " + what, x.told(what), 0);
        }
        Due.is("water at first", x.told(6), 43);
        for (int what = 2; what <= 4; what++) {
            Due.is("nothing flowed " + what, x.gate(0, what), 0);
        }
        Due.is("image gone", x.goBack(0), NOT);
        Due.is("image gone", x.goBack(1), NOT);
        Due.is("the seed goes on", x.seed(5), 77);
        x.go(2);
        x.keep(0);
        Due.is("river of blanks", Due.river(x, " "), 0);
        Due.is("no hour", x.told(3), 0);
        Due.is("no node", x.node(0, 2), UNKNOWN);
        Due.is("no image", x.goBack(0), NOT);
    }

    private static void riverFault(String text, int number, int at) {
        TurnedRiver x = Due.of(SMALL);
        x.go(2);
        x.log(1, 3);
        x.keep(1);
        String before = Due.all(x).substring(8);
        Due.is("river " + text, Due.river(x, text), -10 - number);
        Due.is("fault of " + text, x.fault(), at);
        Due.is("empty behind " + text, x.told(2), 0);
        Due.same("as it was behind " + text, Due.all(x).replaceFirst("fault \\S+", "").trim(), before.trim());
        Due.is("image behind " + text, x.goBack(1), 1);
    }

    // Promises 3 and 5: FAULTS of a river
    private static void riverFaults() {
        String lake = "lake 0 1 0;";
        riverFault("  5", 1, 2);
        riverFault("; lake 0 1 0;", 1, 0);
        riverFault("pond 0 1 0;", 1, 0);
        riverFault("rain 1;lake 0 1 0;", 1, 0);
        riverFault("99999 lake 0 1 0;", 1, 0);
        riverFault("lakes 0 1 0;", 1, 0);
        riverFault("la ke 0 1 0;", 1, 0);
        riverFault("lakez 0 1 0;", 1, 0);
        riverFault("lakea 0 1 0;", 1, 0);
        riverFault("lake{ 0 1 0;", 1, 4);
        riverFault("lake` 0 1 0;", 1, 4);
        riverFault("Lake 0 1 0;", 1, 0);
        riverFault("lak", 1, 0);
        riverFault("lake", 1, 4);
        riverFault("lake  ", 1, 6);
        riverFault("lake 0 1 0", 1, 10);
        riverFault("lake 0 1 0  ", 1, 12);
        riverFault("lake 0 1;", 1, 8);
        riverFault("lake 0 1 0 0;", 1, 11);
        riverFault("lake 0 1 0 00000;", 1, 11);
        riverFault("lake 0,1 0;", 1, 6);
        riverFault("lake 0 -1 0;", 1, 7);
        riverFault("lake 0 1 0;;", 1, 11);
        riverFault("lake 0 1x 0;", 1, 8);
        riverFault("lake 0 1 0;\n", 1, 11);
        riverFault("lake 0 1 0;\u00e9", 1, 11);
        riverFault("lake 0 1 0;\0", 1, 11);
        riverFault("lake 1000 1 0;", 2, 5);
        riverFault("lake 0 0 0;", 2, 7);
        riverFault("lake 0 100 0;", 2, 7);
        riverFault("lake 0 1 10000;", 2, 9);
        riverFault("lake 0 1 00000;", 2, 9);
        riverFault("lake 0 1 123456789012345678901234;", 2, 9);
        riverFault("lake 0 1 00000x", 2, 9);
        riverFault(lake + "lake 0 1 0;", 3, 11);
        riverFault(lake + " lake x", 3, 12);
        riverFault(lake + "sea 0 1 0;", 1, 11);
        riverFault(lake + "at 0 0 0;", 1, 11);
        riverFault(lake + "rain ;", 1, 16);
        riverFault(lake + "rain 1,;", 1, 18);
        riverFault(lake + "rain 1 2;", 1, 18);
        riverFault(lake + "rain 1,2", 1, 19);
        riverFault(lake + "rain 100;", 2, 16);
        riverFault(lake + "tide 999,1000;", 2, 20);
        riverFault(lake + "rain 1;tide 1;rain 1;", 3, 25);
        riverFault(lake + "tide 1;rain 1;tide", 3, 25);
        String row = "1,1,1,1,1,1,1,1,1,1,1,1,1,1,1,1,1,1,1,1,1,1,1,1";
        riverFault(lake + "rain " + row + ",1;", 4, 64);
        riverFault(lake + "tide " + row + ", 999;", 4, 65);
        riverFault(lake + "tide " + row + ",1000;", 2, 64);
        riverFault(lake + "rain " + row + ",;", 1, 64);
        riverFault(lake + "rain " + row + ",", 1, 64);
        riverFault(lake + "gate 1 1 1;pond 0 1 0;", 2, 16);
        riverFault(lake + "gate 00000 1 1;", 2, 16);
        riverFault(lake + "gate 0 10 1;", 2, 18);
        riverFault(lake + "gate 0 9 100;", 2, 20);
        riverFault(lake + "gate 0 9 99,", 1, 22);
        riverFault(lake + "gate 0 9 9;gate 0 9 9;", 3, 27);
        riverFault(lake + "gate 0 9 9;gate 0", 3, 27);
        riverFault(lake + "gate 0 0 0;pond 0 1 0;", 1, 22);
        StringBuilder ponds = new StringBuilder(lake);
        for (int i = 0; i < 8; i++) {
            ponds.append("pond 0 1 0;");
        }
        riverFault(ponds + "pond 0 1 0;", 3, 99);
        riverFault(ponds + "pond", 3, 99);
        riverFault(ponds + "gate 8 1 1;pond 0 1 0;", 1, 110);
        riverFault(ponds + "gate 9 1 1;", 2, 104);
    }

    // Promise 4
    private static void plan() {
        TurnedRiver x = new TurnedRiver();
        Due.feed(x, "at 0 0 1;");
        Due.refused(x, "plan without nodes", NOT, x::plan);
        Due.is("the text stays", x.told(2), 9);
        Due.is("river of a plan", x.river(), -11);
        Due.is("river", Due.river(x, SMALL), 3);
        Due.is("plan of nothing", x.plan(), 0);
        Due.is("plan", Due.plan(x, "at 0 0 2 ; at0 0 3;at 1 1 0;at 999 1 9;"), 4);
        Due.is("clauses", x.told(1), 4);
        Due.is("text", x.told(2), 0);
        Due.is("not set yet", x.gate(0, 0), 1);
        x.go(1);
        Due.is("the last of an hour is set", x.gate(0, 0), 3);
        Due.is("flow by it: 40 of 66", x.gate(0, 2), 40);
        Due.is("not yet", x.gate(1, 0), 2);
        x.go(1);
        Due.is("set in hour 1", x.gate(1, 0), 0);
        Due.is("a plan of what is past", Due.plan(x, "at 0 0 9;at 1 1 9;"), 2);
        x.go(2);
        Due.is("is not heard", x.gate(0, 0), 3);
        Due.is("an empty plan", Due.plan(x, "  "), 0);
        Due.is("no clauses", x.told(1), 0);
        StringBuilder most = new StringBuilder();
        for (int i = 0; i < 30; i++) {
            most.append("at 7 0 ").append(i % 10).append(';');
        }
        Due.is("thirty clauses", Due.plan(x, most.toString()), 30);
        Due.is("hour 7", x.go(4), 8);
        Due.is("by the thirtieth", x.gate(0, 0), 9);
    }

    private static void planFault(String text, int number, int at) {
        TurnedRiver x = Due.of(SMALL);
        Due.is("plan", Due.plan(x, "at 1 0 7;at 2 1 8;"), 2);
        String before = Due.all(x).replaceFirst("fault \\S+", "");
        Due.is("plan " + text, Due.plan(x, text), -10 - number);
        Due.is("fault of " + text, x.fault(), at);
        Due.same("as it was behind " + text, Due.all(x).replaceFirst("fault \\S+", ""), before);
        x.go(3);
        Due.is("the old plan behind " + text, x.gate(0, 0) * 10 + x.gate(1, 0), 78);
    }

    // Promises 4 and 5: FAULTS of a plan
    private static void planFaults() {
        planFault("at", 1, 2);
        planFault("at 0 0 1", 1, 8);
        planFault("at 0 0 1 ", 1, 9);
        planFault("at 0 0 1,", 1, 8);
        planFault("at 0 0 1 1;", 1, 9);
        planFault("ate 0 0 1;", 1, 0);
        planFault("a t 0 0 1;", 1, 0);
        planFault("lake 0 1 0;", 1, 0);
        planFault("0 0 1;", 1, 0);
        planFault("at 0 0 1;;", 1, 9);
        planFault("at 1000 0 1;", 2, 3);
        planFault("at 00001 0 1;", 2, 3);
        planFault("at 0 2 1;", 2, 5);
        planFault("at 0 0 10;", 2, 7);
        planFault("at 5 0 1;at 4 0 1;", 4, 12);
        planFault("at 5 0 1;at 5 0 1;at 4 9 1;", 4, 21);
        planFault("at 5 0 1;at 10000 0 1;", 2, 12);
        StringBuilder thirty = new StringBuilder();
        for (int i = 0; i < 30; i++) {
            thirty.append("at 5 0 1;");
        }
        planFault(thirty + "at 5 0 1;", 3, 270);
        planFault(thirty + " at 4", 3, 271);
        planFault(thirty + "on 5 0 1;", 1, 270);
    }

    // Promise 5
    private static void fault() {
        TurnedRiver x = new TurnedRiver();
        Due.river(x, "lake 0 1 0;x");
        Due.is("fault", x.fault(), 11);
        Due.is("plan is not", x.plan(), NOT);
        Due.is("fault stays behind NOT", x.fault(), 11);
        Due.is("river", Due.river(x, "lake 0 1 0;"), 2);
        Due.is("no fault", x.fault(), NONE);
        Due.plan(x, "  at 0 0 y");
        Due.is("fault of a plan", x.fault(), 9);
        x.keep(0);
        x.goBack(0);
        x.go(1);
        Due.is("fault stays", x.fault(), 9);
        Due.is("plan", x.plan(), 0);
        Due.is("no fault of a plan", x.fault(), NONE);
    }

    // Promise 6
    private static void told() {
        TurnedRiver x = Due.of(SMALL);
        Due.plan(x, "at 3 0 1;at 4 0 1;");
        Due.feed(x, "abc");
        x.go(2);
        x.log(0, 1);
        x.log(1, 1);
        x.log(2, 1);
        x.write(1);
        int[] want = {3, 2, 3, 2, 3, 1, 13 + 26};
        for (int what = 0; what <= 6; what++) {
            Due.is("told " + what, x.told(what), want[what]);
        }
        for (int what : new int[] {-1, 7, Integer.MIN_VALUE, Integer.MAX_VALUE}) {
            Due.refused(x, "told " + what, OUTSIDE, () -> x.told(what));
        }
    }

    // Promise 7
    private static void node() {
        TurnedRiver x = Due.of(SMALL);
        x.log(1, 900);
        x.log(2, 900);
        x.log(1, 900);
        int[][] want = {{10, 2, 40, 30, 0}, {5, 1, 3, 8, 5}, {0, 0, 0, 0, 2}};
        for (int k = 0; k < 3; k++) {
            for (int what = 0; what < 5; what++) {
                Due.is("node " + k + " " + what, x.node(k, what), want[k][what]);
            }
        }
        x.pour(0, 39);
        Due.is("a level is cut", x.node(0, 3), 29);
        x.go(1);
        Due.is("tide of hour 1", x.node(2, 3), 20);
        for (int k : new int[] {-1, 3, 10, Integer.MIN_VALUE, Integer.MAX_VALUE}) {
            Due.refused(x, "node " + k, UNKNOWN, () -> x.node(k, 9));
        }
        Due.refused(x, "node 0 5", OUTSIDE, () -> x.node(0, 5));
        Due.refused(x, "node 2 -1", OUTSIDE, () -> x.node(2, -1));
    }

    // Promise 8
    private static void gate() {
        TurnedRiver x = Due.of(SMALL);
        x.go(2);
        int[][] want = {{1, 4, 5, 27, 0}, {2, 7, -12, 16, 12}};
        for (int k = 0; k < 2; k++) {
            for (int what = 0; what < 5; what++) {
                Due.is("gate " + k + " " + what, x.gate(k, what), want[k][what]);
            }
        }
        for (int k : new int[] {-1, 2, 9, Integer.MIN_VALUE, Integer.MAX_VALUE}) {
            Due.refused(x, "gate " + k, UNKNOWN, () -> x.gate(k, 9));
        }
        Due.refused(x, "gate 0 5", OUTSIDE, () -> x.gate(0, 5));
        Due.refused(x, "gate 1 -1", OUTSIDE, () -> x.gate(1, -1));
        TurnedRiver much = Due.of("lake 0 1 0;pond 0 1 0;tide 999,999,999,999,999,999,999,999,999,999,999,999,999,999,999,999,999,999,999,999,999,999,999,999;gate 1 9 0;gate 0 9 0;");
        for (int i = 0; i < 20; i++) {
            much.go(200);
        }
        Due.is("ground down at most", much.gate(0, 3), 99999999);
        Due.is("ground up at most", much.gate(0, 4), 99999999);
        Due.holds("ground from the sea is less", much.gate(1, 4) < 99999999);
        Due.is("what came from the sea is there", much.told(6), much.gate(1, 4) - much.gate(1, 3));
    }

    // Promise 9
    private static void go() {
        TurnedRiver x = Due.of(SMALL);
        Due.is("go 1", x.go(1), 1);
        Due.is("flow 0: 22 times 1", x.gate(0, 2), 22);
        Due.is("flow 1: 8 times 2, by the level as the hour begins", x.gate(1, 2), 16);
        Due.is("lake", x.node(0, 2), 18);
        Due.is("pond", x.node(1, 2), 9);
        Due.is("sea", x.node(2, 2), 0);
        Due.is("go 1", x.go(1), 2);
        Due.is("flow 0: 19 less 14", x.gate(0, 2), 5);
        Due.is("flow 1 up: 6 times 2", x.gate(1, 2), -12);
        Due.is("lake", x.node(0, 2), 13);
        Due.is("pond", x.node(1, 2), 26);
        Due.is("go 200", x.go(200), 202);
        for (int n : new int[] {0, -1, 201, Integer.MIN_VALUE, Integer.MAX_VALUE}) {
            Due.refused(x, "go " + n, OUTSIDE, () -> x.go(n));
        }
        TurnedRiver day = Due.of("lake 0 1 0;gate 0 0 0;tide 7;");
        day.go(24);
        Due.is("hour 0 of the next day", day.node(1, 3), 7);
    }

    private static void flowLimits() {
        TurnedRiver x = Due.of("lake 0 1 0;pond 10 1 5;");
        x.go(1);
        Due.is("up as far as there is water", x.gate(0, 2), -5);
        Due.is("nothing is left for the gate below", x.gate(1, 2), 0);
        Due.is("lake", x.node(0, 2), 5);
        TurnedRiver y = Due.of("lake 100 1 1;pond 10 1 0;");
        y.go(1);
        Due.is("down as far as there is water", y.gate(0, 2), 1);
        Due.is("what just came goes on", y.gate(1, 2), 1);
        TurnedRiver z = Due.of("lake 0 1 0;pond 0 1 0;tide 999;gate 1 9 1;");
        z.go(1);
        Due.is("the sea has all", z.gate(1, 2), -8991);
        Due.is("a fall of none", z.gate(0, 2), 0);
        Due.is("pond", z.node(1, 2), 8991);
    }

    private static void rain() {
        TurnedRiver x = Due.of("lake 0 1 10;pond 0 1 7;rain 99,0,45;gate 0 0 1;gate 1 0 1;");
        x.go(1);
        Due.is("rain of 49", x.node(0, 2), 59);
        Due.is("no rain in a pond", x.node(1, 2), 7);
        x.go(1);
        Due.is("less 50", x.node(0, 2), 9);
        x.go(1);
        Due.is("less 5", x.node(0, 2), 4);
        x.go(1);
        Due.is("50 untold", x.node(0, 2), 4);
        x.go(20);
        Due.is("go on to a new day", x.node(0, 2), 4);
        x.go(1);
        Due.is("rain of hour 0 again", x.node(0, 2), 53);
        x.go(1);
        Due.is("less 50 again", x.node(0, 2), 3);
        x.go(1);
        Due.is("0 at least", x.node(0, 2), 0);
        TurnedRiver y = Due.of("lake 0 1 0;rain 99;gate 0 5 1;");
        y.go(1);
        Due.is("rain falls behind the flow", y.gate(0, 3), 0);
        Due.is("and stays", y.node(0, 2), 49);
    }

    // Promise 10
    private static void width() {
        TurnedRiver x = Due.of(SMALL);
        Due.is("width was", x.width(1, 9), 2);
        Due.is("width was 9", x.width(1, 0), 9);
        Due.is("width is 0", x.gate(1, 0), 0);
        x.go(1);
        Due.is("shut", x.gate(1, 2), 0);
        Due.refused(x, "width -1", UNKNOWN, () -> x.width(-1, 10));
        Due.refused(x, "width 2", UNKNOWN, () -> x.width(2, 1));
        Due.refused(x, "width to 10", OUTSIDE, () -> x.width(0, 10));
        Due.refused(x, "width to -1", OUTSIDE, () -> x.width(0, -1));
    }

    // Promise 11
    private static void pour() {
        TurnedRiver x = Due.of(SMALL);
        Due.is("pour", x.pour(0, 9999), 40);
        Due.is("pour", x.pour(0, 0), 9999);
        Due.is("pour a pond", x.pour(1, 11), 3);
        Due.is("pond", x.node(1, 2), 11);
        Due.refused(x, "pour the sea", UNKNOWN, () -> x.pour(2, 1));
        Due.refused(x, "pour -1", UNKNOWN, () -> x.pour(-1, -1));
        Due.refused(x, "pour 3", UNKNOWN, () -> x.pour(3, 1));
        Due.refused(x, "pour 10000", OUTSIDE, () -> x.pour(0, 10000));
        Due.refused(x, "pour less", OUTSIDE, () -> x.pour(1, -1));
    }

    // Promise 12
    private static void showers() {
        TurnedRiver x = Due.of("lake 0 1 0;pond 0 1 0;rain 0;gate 0 0 1;gate 1 0 1;");
        long seed = 0;
        long[] came = new long[3];
        long[] all = new long[3];
        for (int i = 0; i < 40; i++) {
            seed = (seed * 1103515245L + 12345L) % 2147483648L;
            long drops = seed / 65536 % 30;
            seed = (seed * 1103515245L + 12345L) % 2147483648L;
            if (i == 24) {
                came[0] = Math.max(0, came[0] - 50);
            }
            came[(int) (seed / 65536 % 3)] += drops;
            all[(int) (seed / 65536 % 3)] += drops;
        }
        Due.is("what came but to the sea", x.showers(1, 30) + x.showers(24, 30) + x.showers(15, 30), all[0] + all[1]);
        Due.holds("some came to the sea", all[2] > 0);
        Due.is("lake", x.node(0, 2), came[0]);
        Due.is("pond", x.node(1, 2), came[1]);
        Due.is("sea", x.node(2, 2), 0);
        Due.is("hour", x.told(3), 40);
        Due.is("seed", x.seed(0), seed);
        TurnedRiver y = Due.of("lake 0 1 0;pond 0 1 0;gate 0 0 1;gate 1 0 1;");
        Due.is("what came is there", y.showers(100, 99), y.told(6));
        Due.is("a draw of 1 is 0", y.showers(5, 1), 0);
        for (int n : new int[] {0, -1, 101}) {
            Due.refused(y, "showers " + n, OUTSIDE, () -> y.showers(n, 1));
        }
        for (int m : new int[] {0, -1, 100}) {
            Due.refused(y, "showers of " + m, OUTSIDE, () -> y.showers(1, m));
        }
        Due.is("OUTSIDE ahead of NOT", new TurnedRiver().showers(0, 1), OUTSIDE);
    }

    // Promise 13
    private static void log() {
        TurnedRiver x = Due.of(SMALL);
        for (int l = 0; l < 12; l++) {
            Due.is("log", x.log(l % 3, l == 0 ? 999 : l), l);
        }
        Due.is("logs in the sea", x.node(2, 4), 4 + 32 + 256 + 2048);
        Due.refused(x, "log 13th", FULL, () -> x.log(0, 1));
        Due.refused(x, "log of weight 0", OUTSIDE, () -> x.log(0, 0));
        Due.refused(x, "log of weight 1000", OUTSIDE, () -> x.log(0, 1000));
        Due.refused(x, "log nowhere", UNKNOWN, () -> x.log(3, 0));
        Due.refused(x, "log nowhere", UNKNOWN, () -> x.log(-1, 1));
    }

    // Promise 14
    private static void wood() {
        TurnedRiver x = Due.of(SMALL);
        x.log(0, 22);
        x.log(0, 23);
        x.log(1, 16);
        x.log(2, 12);
        x.log(1, 17);
        x.go(1);
        Due.is("as heavy as the flow goes", x.wood(0, 0), 1);
        Due.is("heavier stays", x.wood(1, 0), 0);
        Due.is("one gate an hour", x.wood(2, 0), 2);
        x.go(1);
        int[][] want = {{1, 22, 0, 4, 0, 0, 1}, {0, 23, 0, 0, 0, 0, 0}, {2, 16, 1, 7, 0, 0, 1}, {1, 12, 2, -7, 0, 0, -1}, {1, 17, 1, 0, 0, 0, 0}};
        for (int l = 0; l < 5; l++) {
            for (int what = 0; what <= 6; what++) {
                Due.is("wood " + l + " " + what, x.wood(l, what), want[l][what]);
            }
        }
        x.go(1);
        // HOUR 2: LEVELS 16, 31, 0: up 15, then 11 of 62 down.
        int[] on = {0, 12, 2, -11, 0, 0, -1};
        for (int what = 0; what <= 6; what++) {
            Due.is("on to the lake " + what, x.wood(3, what), on[what]);
        }
        comeHome();
        Due.refused(x, "wood 5", UNKNOWN, () -> x.wood(5, 9));
        Due.refused(x, "wood -1", UNKNOWN, () -> x.wood(-1, 0));
        Due.refused(x, "wood of 7", OUTSIDE, () -> x.wood(0, 7));
        Due.refused(x, "wood of -1", OUTSIDE, () -> x.wood(4, -1));
        bothWays();
    }

    private static void comeHome() {
        TurnedRiver x = Due.of("lake 0 1 0;tide 9;gate 0 1 3;");
        x.log(1, 9);
        int[][] want = {{0, 9, 1, -3, 0, 0, -1}, {1, 9, 1, 0, 1, 1, 1}, {1, 9, 1, 0, 1, 1, 1}};
        for (int[] then : want) {
            x.go(1);
            for (int what = 0; what <= 6; what++) {
                Due.is("come home " + what, x.wood(0, what), then[what]);
            }
        }
        x.go(23);
        Due.is("home a second time", x.wood(0, 5), 2);
        Due.is("turned three times", x.wood(0, 4), 3);
    }

    private static void bothWays() {
        // The pond's LEVEL is 30: up 30 times 1, down 30 times 1, 2 or less.
        int[][] cases = {{1, 1, 2}, {1, 2, 2}, {2, 1, 0}};
        for (int[] c : cases) {
            TurnedRiver x = Due.of("lake 0 9 0;pond 0 9 270;");
            x.width(0, c[0]);
            x.width(1, c[1]);
            x.log(1, 5);
            x.go(1);
            Due.is("both ways " + c[0] + " " + c[1], x.wood(0, 0), c[2]);
        }
        TurnedRiver x = Due.of("lake 0 9 0;pond 0 9 270;gate 0 1 3;gate 1 2 3;");
        x.log(1, 31);
        x.go(1);
        Due.is("up is too little", x.wood(0, 0), 2);
    }

    // Promise 15
    private static void clear() {
        TurnedRiver x = Due.of(SMALL);
        x.log(0, 1);
        x.log(1, 1);
        x.go(1);
        Due.is("clear", x.clear(), 2);
        Due.is("no logs", x.told(4), 0);
        Due.is("no wood", x.wood(0, 0), UNKNOWN);
        Due.is("no logs in the pond", x.node(1, 4), 0);
        Due.is("clear again", x.clear(), 0);
        Due.is("from 0 again", x.log(2, 7), 0);
        for (int what = 3; what <= 6; what++) {
            Due.is("a new log", x.wood(0, what), 0);
        }
    }

    // Promise 16
    private static void tried() {
        TurnedRiver x = Due.of(SMALL);
        String before = Due.all(x);
        Due.is("lake behind 2", x.tried(2, 0, 0), 13);
        Due.is("pond behind 1", x.tried(1, 0, 1), 9);
        Due.is("sea", x.tried(1, 0, 2), 0);
        Due.is("flow of the last", x.tried(2, 1, 1), -12);
        Due.is("level behind 1", x.tried(1, 2, 0), 19);
        Due.is("tide behind 1", x.tried(1, 2, 2), 20);
        Due.is("tide behind 25", x.tried(25, 2, 2), 20);
        Due.same("nothing changed", Due.all(x), before);
        Due.plan(x, "at 1 0 0;");
        Due.is("by the plan", x.tried(2, 0, 0), 18);
        Due.is("gate as it was", x.gate(0, 0), 1);
        Due.is("200 on", x.tried(200, 2, 2), 0);
        Due.refused(x, "tried node 3", UNKNOWN, () -> x.tried(1, 0, 3));
        Due.refused(x, "tried level of node 3", UNKNOWN, () -> x.tried(0, 2, 3));
        Due.refused(x, "tried gate 2", UNKNOWN, () -> x.tried(0, 1, 2));
        Due.refused(x, "tried -1", UNKNOWN, () -> x.tried(1, 0, -1));
        Due.refused(x, "tried 0", OUTSIDE, () -> x.tried(0, 0, 0));
        Due.refused(x, "tried 201", OUTSIDE, () -> x.tried(201, 1, 0));
        Due.refused(x, "tried 3", OUTSIDE, () -> x.tried(1, 3, 0));
        Due.refused(x, "tried -1", OUTSIDE, () -> x.tried(1, -1, 0));
    }

    // Promise 17
    private static void slack() {
        TurnedRiver x = Due.of("lake 10 1 0;tide 20,10,10,10,10;gate 0 1 1;");
        // Up 10 in HOUR 0; then 10 down; then nothing till the tide is at 0 and there is no WATER: still nothing.
        Due.is("slack", x.slack(0, 0), 2);
        Due.is("till the next day", x.slack(0, 1), 22);
        x.go(2);
        Due.is("slack now", x.slack(0, 0), 0);
        Due.is("slack now", x.slack(0, 1), 22);
        TurnedRiver shut = Due.of("lake 10 1 50;gate 0 0 1;");
        Due.is("at once", shut.slack(0, 0), 0);
        Due.is("200 in all", shut.slack(0, 1), 200);
        Due.plan(shut, "at 199 0 1;");
        Due.is("till the last of 200", shut.slack(0, 1), 199);
        Due.plan(shut, "at 0 0 1;at 50 0 0;");
        shut.pour(0, 0);
        Due.is("200 in all", shut.slack(0, 1), 200);
        TurnedRiver ever = Due.of("lake 9 9 9999;tide 999;rain 99;gate 0 1 1;");
        ever.pour(0, 9999);
        Due.is("never", ever.slack(0, 0), NONE);
        Due.is("never, how long", ever.slack(0, 1), NONE);
        for (int h : new int[] {199, 200}) {
            TurnedRiver y = Due.of("lake 0 1 9;gate 0 0 1;");
            Due.plan(y, "at 0 0 1;at 1 0 0;at " + h + " 0 0;");
            Due.is("shut from hour 1 on", y.slack(0, 0), 1);
            Due.is("199 of 200", y.slack(0, 1), 199);
        }
        TurnedRiver tidal = Due.of("lake 0 99 9999;gate 0 1 1;tide " + "999,".repeat(23) + "999;");
        Due.holds("the tide goes on for 200 hours", tidal.slack(0, 0) == NONE);
        Due.plan(tidal, "at 200 0 0;");
        Due.is("slack behind 200 hours is not seen", tidal.slack(0, 0), NONE);
        Due.plan(tidal, "at 199 0 0;");
        Due.is("slack in the last of 200", tidal.slack(0, 0), 199);
        Due.is("slack in the last of 200, how long", tidal.slack(0, 1), 1);
        Due.refused(x, "slack 1", UNKNOWN, () -> x.slack(1, 5));
        Due.refused(x, "slack -1", UNKNOWN, () -> x.slack(-1, 0));
        Due.refused(x, "slack of 2", OUTSIDE, () -> x.slack(0, 2));
        Due.refused(x, "slack of -1", OUTSIDE, () -> x.slack(0, -1));
    }

    // Promise 18
    private static void boat() {
        TurnedRiver x = Due.of(SMALL);
        String before = Due.all(x);
        Due.is("down with the flow", x.boat(0, 1, 0, NONE), 1);
        Due.is("its toll", x.boat(0, 1, 0, -2), 4);
        Due.is("what it does", x.boat(0, 1, 0, 0), 1);
        Due.is("not so many", x.boat(0, 1, 0, 1), NONE);
        Due.is("below -2", x.boat(0, 1, 0, -3), NONE);
        Due.is("least", x.boat(0, 1, 0, Integer.MIN_VALUE), NONE);
        Due.is("greatest", x.boat(0, 1, 0, Integer.MAX_VALUE), NONE);
        Due.is("up against 16", x.boat(2, 1, 16, NONE), 1);
        Due.is("toll up", x.boat(2, 1, 16, -2), -7);
        Due.is("up", x.boat(2, 1, 16, 0), 2);
        Due.is("15 waits for the tide", x.boat(2, 1, 15, NONE), 2);
        Due.is("stays", x.boat(2, 1, 15, 0), 0);
        Due.is("then up", x.boat(2, 1, 15, 1), 2);
        Due.is("down against 12 in hour 1", x.boat(0, 2, 12, NONE), 2);
        Due.is("11 waits", x.boat(0, 2, 11, NONE), 3);
        Due.is("stays first", x.boat(0, 2, 11, 0), 0);
        Due.is("goes then", x.boat(0, 2, 11, 1), 1);
        Due.is("and then", x.boat(0, 2, 11, 2), 1);
        Due.is("all toll", x.boat(0, 2, 11, -2), 11);
        Due.is("there already", x.boat(2, 2, 0, NONE), 0);
        Due.is("there already, toll", x.boat(2, 2, 0, -2), 0);
        Due.is("there already, deeds", x.boat(2, 2, 0, 0), NONE);
        Due.same("nothing changed", Due.all(x), before);
        x.width(1, 0);
        Due.is("through a shut gate", x.boat(0, 2, 999, NONE), NONE);
        Due.is("its toll", x.boat(0, 2, 999, -2), NOT);
        Due.is("its deeds", x.boat(0, 2, 999, 0), NONE);
        Due.plan(x, "at 99 1 1;");
        Due.is("100 at most", x.boat(0, 2, 999, NONE), 100);
        Due.is("the last deed", x.boat(0, 2, 999, 99), 1);
        Due.plan(x, "at 100 1 1;");
        Due.is("101 are too many", x.boat(0, 2, 999, NONE), NONE);
        Due.refused(x, "boat from 3", UNKNOWN, () -> x.boat(3, 0, -1, 0));
        Due.refused(x, "boat to 3", UNKNOWN, () -> x.boat(0, 3, 1, 0));
        Due.refused(x, "boat from -1", UNKNOWN, () -> x.boat(-1, 0, 1, 0));
        Due.refused(x, "boat to -1", UNKNOWN, () -> x.boat(0, -1, 1, 0));
        Due.refused(x, "boat of -1", OUTSIDE, () -> x.boat(0, 1, -1, 0));
        Due.refused(x, "boat of 1000", OUTSIDE, () -> x.boat(0, 1, 1000, -2));
    }

    private static void boatOfLikeWays() {
        TurnedRiver x = Due.of("lake 0 1 0;pond 0 1 0;pond 0 1 0;gate 0 1 3;gate 1 1 5;gate 2 0 7;");
        Due.plan(x, "at 5 2 1;");
        // SOONEST is 6: of like ones it waits as long as it can, at the lake.
        Due.is("soonest", x.boat(0, 3, 0, NONE), 6);
        int[] want = {0, 0, 0, 1, 1, 1};
        for (int i = 0; i < 6; i++) {
            Due.is("deed " + i, x.boat(0, 3, 0, i), want[i]);
        }
        Due.plan(x, "at 0 0 1;at 2 0 0;at 5 2 1;");
        // The first GATE shuts in HOUR 2: it goes in HOUR 1 at the latest.
        int[] early = {0, 1, 0, 0, 1, 1};
        for (int i = 0; i < 6; i++) {
            Due.is("early deed " + i, x.boat(0, 3, 0, i), early[i]);
        }
        Due.is("toll of all", x.boat(0, 3, 0, -2), 15);
    }

    // Promise 19
    private static void sent() {
        TurnedRiver x = Due.of(SMALL);
        String before = Due.all(x);
        Due.is("now", x.sent(1, 0, 0, 5), 2);
        Due.is("behind an hour", x.sent(2, 1, 0, 5), 2 + 4);
        Due.is("from the lake", x.sent(1, 1, 0, 5), 1);
        Due.is("too heavy", x.sent(0, 1, 0, 23), 1);
        Due.is("behind two: back by the tide", x.sent(1, 2, 0, 12), 1 + 2 + 4);
        Due.is("set in ahead of hour 1", x.sent(1, 2, 1, 12), 2 + 4);
        Due.is("set in at the end", x.sent(1, 2, 2, 12), 2);
        Due.is("100", x.sent(1, 100, 100, 999), 2);
        Due.same("nothing changed", Due.all(x), before);
        Due.refused(x, "sent 3", UNKNOWN, () -> x.sent(3, -1, 0, 5));
        Due.refused(x, "sent -1", UNKNOWN, () -> x.sent(-1, 0, 0, 5));
        Due.refused(x, "sent n -1", OUTSIDE, () -> x.sent(0, -1, 0, 5));
        Due.refused(x, "sent n -1 h -1", OUTSIDE, () -> x.sent(0, -1, -1, 5));
        Due.refused(x, "sent n 101", OUTSIDE, () -> x.sent(0, 101, 0, 5));
        Due.refused(x, "sent h -1", OUTSIDE, () -> x.sent(0, 5, -1, 5));
        Due.refused(x, "sent h above n", OUTSIDE, () -> x.sent(0, 5, 6, 5));
        Due.refused(x, "sent weight 0", OUTSIDE, () -> x.sent(0, 5, 0, 0));
        Due.refused(x, "sent weight 1000", OUTSIDE, () -> x.sent(0, 5, 0, 1000));
    }

    // Promise 20
    private static void ring() {
        TurnedRiver x = Due.of(SMALL);
        String before = Due.all(x);
        Due.is("out and home", x.ring(1, 12), 2);
        Due.is("too heavy", x.ring(1, 999), NONE);
        Due.same("nothing changed", Due.all(x), before);
        TurnedRiver y = Due.of("lake 0 1 0;tide 9;gate 0 0 1;");
        // HOUR 192 is the day's first: up; HOUR 193: down.
        Due.plan(y, "at 192 0 1;");
        Due.is("ring of 194", y.ring(1, 9), 194);
        y.go(1);
        Due.is("ring of 193", y.ring(1, 9), 193);
        Due.plan(y, "at 192 0 1;at 193 0 0;at 200 0 1;");
        Due.is("200 at most", y.ring(1, 9), 200);
        Due.plan(y, "at 192 0 1;at 193 0 0;at 201 0 1;");
        Due.is("201 are too many", y.ring(1, 9), NONE);
        Due.refused(x, "ring 3", UNKNOWN, () -> x.ring(3, 0));
        Due.refused(x, "ring -1", UNKNOWN, () -> x.ring(-1, 1));
        Due.refused(x, "ring of 0", OUTSIDE, () -> x.ring(0, 0));
        Due.refused(x, "ring of 1000", OUTSIDE, () -> x.ring(0, 1000));
    }

    // Promise 21
    private static void drained() {
        TurnedRiver x = Due.of(SMALL);
        String before = Due.all(x);
        Due.is("shut: 18 less 40", x.drained(0, 0, 1), -22);
        Due.is("as it is", x.drained(0, 1, 50), 0);
        Due.is("wide: 18 less 0", x.drained(0, 2, 1), 18 - (40 - 40));
        Due.is("the gate below shut, 2 hours on", x.drained(1, 0, 2), 13 - 18 - 11);
        Due.same("nothing changed", Due.all(x), before);
        Due.plan(x, "at 0 0 9;at 1 0 9;");
        Due.is("whatever the plan tells", x.drained(0, 0, 2), x.tried(2, 0, 0) - 40);
        Due.refused(x, "drained 2", UNKNOWN, () -> x.drained(2, 10, 1));
        Due.refused(x, "drained -1", UNKNOWN, () -> x.drained(-1, 1, 1));
        Due.refused(x, "drained 10", OUTSIDE, () -> x.drained(0, 10, 1));
        Due.refused(x, "drained w -1", OUTSIDE, () -> x.drained(0, -1, 1));
        Due.refused(x, "drained 0 hours", OUTSIDE, () -> x.drained(0, 1, 0));
        Due.refused(x, "drained 201 hours", OUTSIDE, () -> x.drained(0, 1, 201));
        Due.holds("drained 200 hours", x.drained(0, 1, 200) > -10000);
    }

    // Promise 22
    private static void nearest() {
        TurnedRiver x = Due.of(SMALL);
        String before = Due.all(x);
        // Behind an HOUR the lake has 40, 18, 0, 0, .. by WIDTHS 0, 1, 2, 3, ..
        Due.is("40", x.nearest(0, 40, 1), 0);
        Due.is("30", x.nearest(0, 30, 1), 0);
        Due.is("29: of like ones the least", x.nearest(0, 29, 1), 0);
        Due.is("28", x.nearest(0, 28, 1), 1);
        Due.is("9: of like ones the least", x.nearest(0, 9, 1), 1);
        Due.is("8", x.nearest(0, 8, 1), 2);
        Due.is("0", x.nearest(0, 0, 1), 2);
        Due.is("99999", x.nearest(0, 99999, 1), 0);
        Due.same("nothing changed", Due.all(x), before);
        Due.plan(x, "at 0 0 9;");
        Due.is("whatever the plan tells", x.nearest(0, 18, 1), 1);
        TurnedRiver y = Due.of("lake 0 1 0;tide 100;");
        Due.is("9 fills it most", y.nearest(0, 99999, 1), 9);
        Due.refused(x, "nearest 2", UNKNOWN, () -> x.nearest(2, -1, 1));
        Due.refused(x, "nearest -1", UNKNOWN, () -> x.nearest(-1, 1, 1));
        Due.refused(x, "nearest to -1", OUTSIDE, () -> x.nearest(0, -1, 1));
        Due.refused(x, "nearest to 100000", OUTSIDE, () -> x.nearest(0, 100000, 1));
        Due.refused(x, "nearest of 0", OUTSIDE, () -> x.nearest(0, 1, 0));
        Due.refused(x, "nearest of 201", OUTSIDE, () -> x.nearest(0, 1, 201));
    }

    // Promise 23
    private static void stopped() {
        TurnedRiver x = Due.of(SMALL);
        Due.is("no logs", x.stopped(100), 0);
        x.log(0, 5);
        // It goes to the pond, stays, goes to the lake, to the pond, and with 9 parts to the sea.
        Due.is("it does not come so far in an hour", x.stopped(1), 0);
        Due.is("nor in four", x.stopped(4), 0);
        Due.is("in five it does, unless gate 0 is shut", x.stopped(5), 1);
        Due.is("in a hundred", x.stopped(100), 1);
        x.log(1, 4);
        Due.is("with gate 0 shut only 3 parts flow below", x.stopped(1), 1);
        x.log(1, 3);
        Due.is("a light one below gate 0", x.stopped(1), 2);
        Due.is("both, by the lower gate", x.stopped(50), 2);
        Due.plan(x, "at 0 1 9;at 1 1 9;at 2 1 9;");
        Due.is("whatever the plan tells", x.stopped(50), 2);
        String now = Due.all(x);
        x.stopped(100);
        Due.same("nothing changed", Due.all(x), now);
        x.log(2, 999);
        Due.is("one lies there", x.stopped(1), NONE);
        Due.refused(x, "stopped 0", OUTSIDE, () -> x.stopped(0));
        Due.refused(x, "stopped 101", OUTSIDE, () -> x.stopped(101));
        Due.is("OUTSIDE ahead of NOT", new TurnedRiver().stopped(0), OUTSIDE);
    }

    // Promise 24
    private static void write() {
        TurnedRiver x = new TurnedRiver();
        for (int i = 1; i <= 60; i++) {
            Due.is("write", x.write(i == 1 ? 99999 : 0), i);
        }
        Due.refused(x, "write 61st", FULL, () -> x.write(0));
        Due.refused(x, "write -1", OUTSIDE, () -> x.write(-1));
        Due.refused(x, "write 100000", OUTSIDE, () -> x.write(100000));
        Due.is("entries", x.told(5), 60);
    }

    // Promise 25
    private static void tear() {
        TurnedRiver x = Due.of(SMALL);
        x.write(1);
        x.write(2);
        Due.is("tear", x.tear(), 2);
        Due.is("empty", x.told(5), 0);
        Due.is("none is wrong", x.judge(0), NONE);
        Due.is("tear again", x.tear(), 0);
        Due.is("from one again", x.write(40), 1);
    }

    // Promise 26
    private static void judge() {
        TurnedRiver x = Due.of(SMALL);
        Due.is("an empty book", x.judge(0), NONE);
        x.write(40);
        x.write(20);
        x.write(10);
        String before = Due.all(x);
        Due.is("off by 2", x.judge(0), 1);
        Due.is("off by 2", x.judge(1), 1);
        Due.is("off by 3", x.judge(2), 2);
        Due.is("none", x.judge(3), NONE);
        Due.same("nothing changed", Due.all(x), before);
        x.go(1);
        Due.is("from now on", x.judge(21), 0);
        x.tear();
        x.pour(0, 0);
        x.write(9999);
        Due.is("9999 off", x.judge(9998), 0);
        Due.is("9999 off, by no more than 9999", x.judge(9999), NONE);
        TurnedRiver y = Due.of("lake 0 1 9;gate 0 0 1;");
        for (int i = 0; i < 59; i++) {
            y.write(9);
        }
        Due.is("59 right", y.judge(0), NONE);
        y.write(8);
        Due.is("the 60th is wrong", y.judge(0), 59);
        Due.plan(y, "at 30 0 1;");
        Due.is("by the plan", y.judge(0), 31);
        Due.refused(x, "judge -1", OUTSIDE, () -> x.judge(-1));
        Due.refused(x, "judge 10000", OUTSIDE, () -> x.judge(10000));
        Due.is("OUTSIDE ahead of NOT", new TurnedRiver().judge(-1), OUTSIDE);
    }

    // Promise 27
    private static void seed() {
        TurnedRiver x = new TurnedRiver();
        Due.is("seed", x.seed(2147483647), 0);
        Due.is("seed", x.seed(1), 2147483647);
        Due.refused(x, "seed -1", OUTSIDE, () -> x.seed(-1));
        Due.refused(x, "seed least", OUTSIDE, () -> x.seed(Integer.MIN_VALUE));
        Due.is("seed", x.seed(0), 1);
    }

    // Promises 28 and 29
    private static void keepAndGoBack() {
        TurnedRiver none = Due.of(SMALL);
        Due.refused(none, "not kept", NOT, () -> none.goBack(1));
        for (int i : new int[] {-1, 2, Integer.MIN_VALUE, Integer.MAX_VALUE}) {
            Due.refused(none, "keep " + i, UNKNOWN, () -> none.keep(i));
            Due.refused(none, "goBack " + i, UNKNOWN, () -> none.goBack(i));
        }
        TurnedRiver x = Due.of(SMALL);
        x.log(2, 12);
        x.seed(9);
        x.go(3);
        String three = Due.all(x);
        Due.is("keep", x.keep(1), 1);
        Due.refused(x, "the other is not kept", NOT, () -> x.goBack(0));
        x.go(4);
        x.width(0, 9);
        x.log(0, 3);
        String seven = Due.all(x);
        Due.is("keep", x.keep(0), 1);
        x.showers(20, 50);
        x.clear();
        Due.is("go back", x.goBack(1), 1);
        Due.same("as in hour 3", Due.all(x), three);
        Due.is("go back on", x.goBack(0), 1);
        Due.same("as in hour 7", Due.all(x), seven);
        Due.is("again", x.goBack(1), 1);
        Due.is("again", x.goBack(1), 1);
        Due.same("still as in hour 3", Due.all(x), three);
    }

    private static void imagesHold() {
        TurnedRiver x = new TurnedRiver();
        x.seed(8);
        Due.is("keep without nodes", x.keep(0), 1);
        x.seed(9);
        Due.is("go back without nodes", x.goBack(0), 1);
        Due.is("the seed comes back", x.seed(8), 8);
        Due.river(x, SMALL);
        x.keep(0);
        x.write(40);
        Due.plan(x, "at 0 0 9;");
        Due.feed(x, "zz");
        x.go(1);
        x.keep(0);
        Due.is("kept anew", x.goBack(0), 1);
        Due.is("hour 1", x.told(3), 1);
        Due.is("the book stays", x.told(5), 1);
        Due.is("the plan stays", x.told(1), 1);
        Due.is("the text stays", x.told(2), 2);
        Due.is("width by the plan", x.gate(0, 0), 9);
        x.width(0, 1);
        x.pour(0, 1);
        x.log(0, 1);
        x.go(1);
        Due.is("go back", x.goBack(0), 1);
        Due.is("what came later is not in it", x.told(4) + x.gate(0, 0) * 10, 90);
    }
}

import java.util.function.Supplier;

/**
 * The boundary cases of promises 6 to 29, call by call: the last number that is allowed and the first that is not,
 * the order of the refusals, and that what is refused (and what is only asked or TRIED) changes nothing.
 */
public final class CallBoundsTest {
    private static final int NONE = Due.NONE, UNKNOWN = Due.UNKNOWN, OUTSIDE = Due.OUTSIDE, NOT = Due.NOT, FULL = Due.FULL;
    private static final int LEAST = Bounds.LEAST, MOST = Bounds.MOST;
    private static final Supplier<TurnedRiver> NEW = TurnedRiver::new, BARE = Bounds::bare, BUSY = Bounds::busy;
    /** No such NODE in a river of three; no such GATE has 2 too. */
    private static final int[] NO_NODE = {-1, 3, 10, LEAST, MOST}, NO_GATE = {-1, 2, 3, 9, LEAST, MOST};

    public static void main(String[] args) {
        constants();
        told();
        node();
        gate();
        ground();
        go();
        width();
        pour();
        showers();
        log();
        wood();
        clear();
        tried();
        slack();
        boat();
        sent();
        ring();
        drained();
        nearest();
        stopped();
        write();
        tear();
        judge();
        seed();
        keep();
        goBack();
        withoutNodes();
        greatestRiver();
        Due.end();
    }

    private static int[] beside(int low, int high) {
        return new int[] {low - 1, high + 1, LEAST, MOST};
    }

    private static void constants() {
        Due.says("Terms", "They are far below all that is counted: -100000001 and on.");
        Due.is("NONE", TurnedRiver.NONE, -1);
        Due.is("UNKNOWN", TurnedRiver.UNKNOWN, -100000001);
        Due.is("OUTSIDE", TurnedRiver.OUTSIDE, -100000002);
        Due.is("NOT", TurnedRiver.NOT, -100000003);
        Due.is("FULL", TurnedRiver.FULL, -100000004);
    }

    private static void told() {
        Due.says("6 told", "How many: 0 NODES .. 6 WATER of all NODES but the sea. OUTSIDE.");
        int[] want = {3, 3, 22, 2, 3, 2, 39};
        for (int w = 0; w <= 6; w++) {
            int what = w;
            Bounds.answers(BUSY, "told " + what, want[what], x -> x.told(what));
        }
        for (int what : beside(0, 6)) {
            Bounds.refuses(BUSY, "told " + what, OUTSIDE, x -> x.told(what));
            Bounds.refuses(NEW, "told " + what, OUTSIDE, x -> x.told(what));
        }
        StringBuilder s = new StringBuilder("lake 0 1 9999;");
        for (int i = 0; i < 8; i++) {
            s.append("pond 0 1 9999;");
        }
        TurnedRiver x = Due.of(s.toString());
        Due.plan(x, "at 0 0 1;".repeat(30));
        Due.feed(x, " ".repeat(400));
        for (int i = 0; i < 60; i++) {
            x.write(0);
            x.log(9, 1);
        }
        int[] most = {10, 30, 400, 0, 12, 60, 89991};
        for (int what = 0; what <= 6; what++) {
            Due.is("the most of " + what, x.told(what), most[what]);
        }
    }

    private static void node() {
        Due.says("7 node", "what = 0 FLOOR, 1 AREA, 2 WATER (all 0 of the sea), 3 LEVEL now, 4 LOGS in it (a SET). UNKNOWN, OUTSIDE.");
        int[][] want = {{10, 2, 13, 16, 0}, {5, 1, 26, 31, 7}, {0, 0, 0, 0, 0}};
        for (int node = 0; node < 3; node++) {
            int k = node;
            for (int w = 0; w <= 4; w++) {
                int what = w;
                Bounds.answers(BUSY, "node " + k + " " + what, want[k][what], x -> x.node(k, what));
            }
            for (int what : beside(0, 4)) {
                Bounds.refuses(BUSY, "node " + k + " " + what, OUTSIDE, x -> x.node(k, what));
            }
        }
        for (int k : NO_NODE) {
            Bounds.refuses(BUSY, "node " + k, UNKNOWN, x -> x.node(k, 0));
            Bounds.refuses(BUSY, "UNKNOWN ahead of OUTSIDE, node " + k, UNKNOWN, x -> x.node(k, 5));
        }
        TurnedRiver sea = Due.of("lake 0 1 0;tide 999;gate 0 0 0;");
        for (int l = 0; l < 12; l++) {
            sea.log(1, 1);
        }
        Due.is("the greatest SET of LOGS", sea.node(1, 4), 4095);
        Due.is("LEVEL of the sea", sea.node(1, 3), 999);
        sea.go(1);
        Due.is("LEVEL of the sea, an HOUR on", sea.node(1, 3), 0);
        TurnedRiver most = Bounds.long10();
        Due.is("the last pond of eight", most.node(8, 2), 80);
        Due.is("the sea below eight", most.node(9, 2), 0);
        Due.is("no node 10", most.node(10, 2), UNKNOWN);
    }

    private static void gate() {
        Due.says("8 gate", "what = 0 WIDTH, 1 TOLL, 2 FLOW of the latest HOUR (0 at first), 3, 4 GROUND DOWN, UP (99999999 at most). UNKNOWN, OUTSIDE.");
        int[][] want = {{1, 4, 5, 27, 0}, {2, 7, -12, 16, 12}};
        for (int g = 0; g < 2; g++) {
            int k = g;
            for (int w = 0; w <= 4; w++) {
                int what = w;
                Bounds.answers(BUSY, "gate " + k + " " + what, want[k][what], x -> x.gate(k, what));
            }
            for (int what : beside(0, 4)) {
                Bounds.refuses(BUSY, "gate " + k + " " + what, OUTSIDE, x -> x.gate(k, what));
            }
        }
        for (int k : NO_GATE) {
            Bounds.refuses(BUSY, "gate " + k, UNKNOWN, x -> x.gate(k, 0));
            Bounds.refuses(BUSY, "UNKNOWN ahead of OUTSIDE, gate " + k, UNKNOWN, x -> x.gate(k, -1));
        }
        TurnedRiver first = Due.of(Bounds.SMALL);
        Due.is("FLOW at first", first.gate(0, 2), 0);
        Due.is("the last gate of nine", Bounds.long10().gate(8, 1), 1);
        Due.is("no gate 9", Bounds.long10().gate(9, 1), UNKNOWN);
    }

    private static void ground() {
        Due.says("8 gate", "GROUND DOWN, UP (99999999 at most)");
        TurnedRiver x = Due.of("lake 0 1 0;gate 0 9 0;tide 999" + ",999".repeat(23) + ";");
        // 8991 go up in one HOUR and down in the next.
        for (int i = 0; i < 111; i++) {
            x.go(200);
        }
        x.go(44);
        Due.is("down in 22244 HOURS", x.gate(0, 3), 99997902);
        Due.is("up in 22244 HOURS", x.gate(0, 4), 99997902);
        x.keep(0);
        x.go(2);
        Due.is("down, beyond the most", x.gate(0, 3), 99999999);
        Due.is("up, beyond the most", x.gate(0, 4), 99999999);
        x.go(2);
        Due.is("down, still", x.gate(0, 3), 99999999);
        Due.is("up, still", x.gate(0, 4), 99999999);
        Due.is("FLOW goes on", x.gate(0, 2), 8991);
        x.goBack(0);
        x.width(0, 1);
        int[] down = {999 + 2096, 99999998, 1000, 99999999, 1000, 99999999};
        for (int i = 0; i < 6; i += 2) {
            x.pour(0, down[i]);
            x.go(1);
            Due.is("down, part by part", x.gate(0, 3), down[i + 1]);
        }
        Due.is("up is another", x.gate(0, 4), 99997902);
        x.width(0, 4);
        int[] up = {999 - 524, 99999998, 998, 99999999, 998, 99999999};
        for (int i = 0; i < 6; i += 2) {
            x.pour(0, up[i]);
            x.go(1);
            x.width(0, 1);
            Due.is("up, part by part", x.gate(0, 4), up[i + 1]);
        }
    }

    private static void go() {
        Due.says("9 go", "n HOURS (1 .. 200) go by: THE HOUR. OUTSIDE, NOT: there are no NODES.");
        Due.is("go 1", Bounds.busy().go(1), 3);
        Due.is("go 200", Bounds.busy().go(200), 202);
        for (int n : beside(1, 200)) {
            Bounds.refuses(BUSY, "go " + n, OUTSIDE, x -> x.go(n));
            Bounds.refuses(BARE, "OUTSIDE ahead of NOT, go " + n, OUTSIDE, x -> x.go(n));
        }
        for (int n : new int[] {1, 200}) {
            Bounds.refuses(BARE, "go " + n, NOT, x -> x.go(n));
        }
        Due.is("least NODES", Due.of("lake 0 1 0;").go(1), 1);
    }

    private static void width() {
        Due.says("10 width", "WIDTH of a GATE becomes w: what it was. UNKNOWN, OUTSIDE.");
        for (int k = 0; k < 2; k++) {
            TurnedRiver x = Bounds.busy();
            Due.is("width 0", x.width(k, 0), k + 1);
            Due.is("width 9", x.width(k, 9), 0);
            Due.is("width is", x.gate(k, 0), 9);
            Due.is("the other gate", x.gate(1 - k, 0), 2 - k);
        }
        for (int k : NO_GATE) {
            Bounds.refuses(BUSY, "width of " + k, UNKNOWN, x -> x.width(k, 1));
            Bounds.refuses(BUSY, "UNKNOWN ahead of OUTSIDE, width of " + k, UNKNOWN, x -> x.width(k, 10));
        }
        for (int w : beside(0, 9)) {
            Bounds.refuses(BUSY, "width " + w, OUTSIDE, x -> x.width(0, w));
            Bounds.refuses(BUSY, "width " + w, OUTSIDE, x -> x.width(1, w));
        }
        Due.is("the last gate of nine", Bounds.long10().width(8, 9), 5);
        Due.is("no gate 9", Bounds.long10().width(9, 9), UNKNOWN);
    }

    private static void pour() {
        Due.says("11 pour", "WATER of a NODE but the sea becomes v (0 .. 9999): what it was. UNKNOWN, OUTSIDE.");
        int[] was = {13, 26};
        for (int k = 0; k < 2; k++) {
            TurnedRiver x = Bounds.busy();
            Due.is("pour 9999", x.pour(k, 9999), was[k]);
            Due.is("it has", x.node(k, 2), 9999);
            Due.is("pour 0", x.pour(k, 0), 9999);
            Due.is("it has", x.node(k, 2), 0);
            Due.is("the other", x.node(1 - k, 2), was[1 - k]);
        }
        Bounds.refuses(BUSY, "pour the sea", UNKNOWN, x -> x.pour(2, 1));
        Bounds.refuses(BUSY, "UNKNOWN ahead of OUTSIDE, pour the sea", UNKNOWN, x -> x.pour(2, 10000));
        for (int k : NO_NODE) {
            Bounds.refuses(BUSY, "pour " + k, UNKNOWN, x -> x.pour(k, 1));
            Bounds.refuses(BUSY, "UNKNOWN ahead of OUTSIDE, pour " + k, UNKNOWN, x -> x.pour(k, -1));
        }
        for (int v : beside(0, 9999)) {
            Bounds.refuses(BUSY, "pour " + v, OUTSIDE, x -> x.pour(0, v));
            Bounds.refuses(BUSY, "pour " + v, OUTSIDE, x -> x.pour(1, v));
        }
        TurnedRiver much = Due.of("lake 0 1 9999;rain 99;gate 0 0 0;");
        much.go(1);
        Due.is("it may have had more", much.pour(0, 9999), 10048);
    }

    private static void showers() {
        Due.says("12 showers", "SHOWERS of n (1 .. 100), m 1 .. 99: how much came to NODES but the sea. OUTSIDE, NOT: there are no NODES.");
        for (int n : new int[] {1, 100}) {
            for (int m : new int[] {1, 99}) {
                TurnedRiver x = Due.of(Bounds.STILL);
                int came = x.showers(n, m);
                Due.is("what came is there, " + n + " " + m, x.told(6), 43 + came);
                Due.is("HOURS", x.told(3), n);
                Due.holds("a DRAW of 1 is 0", m > 1 || came == 0);
            }
        }
        for (int n : beside(1, 100)) {
            Bounds.refuses(BUSY, "showers " + n, OUTSIDE, x -> x.showers(n, 1));
            Bounds.refuses(BUSY, "showers " + n, OUTSIDE, x -> x.showers(n, 99));
            Bounds.refuses(BARE, "OUTSIDE ahead of NOT, showers " + n, OUTSIDE, x -> x.showers(n, 1));
        }
        for (int m : beside(1, 99)) {
            Bounds.refuses(BUSY, "showers of " + m, OUTSIDE, x -> x.showers(1, m));
            Bounds.refuses(BUSY, "showers of " + m, OUTSIDE, x -> x.showers(100, m));
            Bounds.refuses(BARE, "OUTSIDE ahead of NOT, showers of " + m, OUTSIDE, x -> x.showers(1, m));
        }
        Bounds.refuses(BARE, "showers", NOT, x -> x.showers(1, 1));
        Bounds.refuses(BARE, "showers", NOT, x -> x.showers(100, 99));
    }

    private static void log() {
        Due.says("13 log", "A LOG of a WEIGHT is set in at a NODE: its number. UNKNOWN, OUTSIDE, FULL (12).");
        for (int k = 0; k < 3; k++) {
            for (int weight : new int[] {1, 999}) {
                TurnedRiver x = Bounds.busy();
                Due.is("log", x.log(k, weight), 3);
                int[] want = {k, weight, k, 0, 0, 0, 0};
                for (int what = 0; what <= 6; what++) {
                    Due.is("wood " + what, x.wood(3, what), want[what]);
                }
            }
        }
        Supplier<TurnedRiver> full = Bounds::wooded;
        Due.is("the twelfth has number 11", full.get().told(4), 12);
        for (int k : NO_NODE) {
            Bounds.refuses(BUSY, "log at " + k, UNKNOWN, x -> x.log(k, 1));
            Bounds.refuses(BUSY, "UNKNOWN ahead of OUTSIDE, log at " + k, UNKNOWN, x -> x.log(k, 0));
            Bounds.refuses(full, "UNKNOWN ahead of FULL, log at " + k, UNKNOWN, x -> x.log(k, 1));
            Bounds.refuses(full, "UNKNOWN ahead of all, log at " + k, UNKNOWN, x -> x.log(k, 1000));
        }
        for (int weight : beside(1, 999)) {
            Bounds.refuses(BUSY, "log of " + weight, OUTSIDE, x -> x.log(0, weight));
            Bounds.refuses(full, "OUTSIDE ahead of FULL, log of " + weight, OUTSIDE, x -> x.log(2, weight));
        }
        Bounds.refuses(full, "a thirteenth", FULL, x -> x.log(0, 1));
        Bounds.refuses(full, "a thirteenth", FULL, x -> x.log(2, 999));
        TurnedRiver x = Due.of(Bounds.SMALL);
        for (int l = 0; l < 12; l++) {
            Due.is("log", x.log(0, 1), l);
        }
        Due.is("a thirteenth", x.log(0, 1), FULL);
        Due.is("clear", x.clear(), 12);
        Due.is("room again", x.log(0, 1), 0);
        Due.is("at the sea below eight", Bounds.long10().log(9, 1), 0);
        Due.is("no node 10", Bounds.long10().log(10, 1), UNKNOWN);
    }

    private static void wood() {
        Due.says("14 wood", "Of a LOG: what = 0 NODE .. 6 the way it went last (1 down, -1 up, 0). UNKNOWN, OUTSIDE.");
        int[][] want = {{1, 5, 0, 4, 0, 0, 1}, {1, 12, 2, -7, 0, 0, -1}, {1, 7, 1, 0, 0, 0, 0}};
        for (int log = 0; log < 3; log++) {
            int l = log;
            for (int w = 0; w <= 6; w++) {
                int what = w;
                Bounds.answers(BUSY, "wood " + l + " " + what, want[l][what], x -> x.wood(l, what));
            }
            for (int what : beside(0, 6)) {
                Bounds.refuses(BUSY, "wood " + l + " " + what, OUTSIDE, x -> x.wood(l, what));
            }
        }
        for (int l : new int[] {-1, 3, 11, 12, LEAST, MOST}) {
            Bounds.refuses(BUSY, "wood " + l, UNKNOWN, x -> x.wood(l, 0));
            Bounds.refuses(BUSY, "UNKNOWN ahead of OUTSIDE, wood " + l, UNKNOWN, x -> x.wood(l, 7));
        }
        Bounds.answers(Bounds::wooded, "the last of twelve", 11, x -> x.wood(11, 1));
        Bounds.refuses(Bounds::wooded, "a thirteenth", UNKNOWN, x -> x.wood(12, 1));
        Bounds.refuses(BARE, "no LOGS", UNKNOWN, x -> x.wood(0, 0));
        TurnedRiver x = Bounds.busy();
        x.clear();
        Due.is("no LOG 0 behind clear", x.wood(0, 0), UNKNOWN);
    }

    private static void clear() {
        Due.says("15 clear", "There are no LOGS: how many there were.");
        Bounds.answers(NEW, "clear", 0, TurnedRiver::clear);
        Bounds.answers(() -> Due.of(Bounds.SMALL), "clear", 0, TurnedRiver::clear);
        TurnedRiver x = Bounds.wooded();
        Due.is("clear of twelve", x.clear(), 12);
        Due.is("LOGS", x.told(4), 0);
        Due.is("the SET in the pond", x.node(1, 4), 0);
        Due.is("clear of none", x.clear(), 0);
        Due.is("a LOG anew", x.log(2, 3), 0);
        int[] want = {2, 3, 2, 0, 0, 0, 0};
        for (int what = 0; what <= 6; what++) {
            Due.is("has nothing of the old one " + what, x.wood(0, what), want[what]);
        }
        x.goBack(0);
        Due.is("an image holds them still", x.clear(), 2);
        TurnedRiver turned = Due.of("lake 0 1 9;tide 0,9;gate 0 1 1;");
        turned.log(0, 9);
        turned.go(3);
        Due.is("a LOG that turned", turned.wood(0, 4), 2);
        Due.is("and came home", turned.wood(0, 5), 1);
        Due.is("clear of one", turned.clear(), 1);
        turned.log(0, 9);
        for (int what = 3; what <= 6; what++) {
            Due.is("nothing of it is left " + what, turned.wood(0, what), 0);
        }
    }

    private static void tried() {
        Due.says("16 tried", "TRIED n HOURS (1 .. 200) on: what = 0 WATER of NODE k then, 1 FLOW of GATE k in the last of them, 2 LEVEL of NODE k then. UNKNOWN, OUTSIDE.");
        int[][] want = {{28, 0, 0}, {-15, 11}, {24, 5, 0}};
        for (int w = 0; w <= 2; w++) {
            int what = w;
            for (int node = 0; node < want[what].length; node++) {
                int k = node;
                Bounds.answers(BUSY, "tried 1 " + what + " " + k, want[what][k], x -> x.tried(1, what, k));
            }
            for (int k : what == 1 ? NO_GATE : NO_NODE) {
                Bounds.refuses(BUSY, "tried " + what + " " + k, UNKNOWN, x -> x.tried(1, what, k));
                Bounds.refuses(BUSY, "UNKNOWN ahead of OUTSIDE, tried " + what + " " + k, UNKNOWN, x -> x.tried(0, what, k));
                Bounds.refuses(BUSY, "UNKNOWN ahead of OUTSIDE, tried " + what + " " + k, UNKNOWN, x -> x.tried(201, what, k));
            }
            for (int n : beside(1, 200)) {
                Bounds.refuses(BUSY, "tried " + n + " " + what, OUTSIDE, x -> x.tried(n, what, 0));
            }
            Bounds.refuses(BARE, "tried " + what, UNKNOWN, x -> x.tried(1, what, 0));
        }
        for (int what : beside(0, 2)) {
            Bounds.refuses(BUSY, "tried of " + what, OUTSIDE, x -> x.tried(1, what, 0));
            Bounds.refuses(BUSY, "tried of " + what, OUTSIDE, x -> x.tried(200, what, 1));
            for (int k : NO_NODE) {
                Bounds.refuses(BUSY, "UNKNOWN ahead of OUTSIDE, tried of " + what + " " + k, UNKNOWN, x -> x.tried(1, what, k));
            }
        }
        TurnedRiver x = Due.of("lake 0 99 9999;gate 0 0 1;tide 0,1,2,3,4,5,6,7,8,9;");
        Due.plan(x, "at 199 0 1;at 200 0 2;");
        Due.is("LEVEL 1 on", x.tried(1, 2, 1), 1);
        Due.is("LEVEL 200 on", x.tried(200, 2, 1), 8);
        Due.is("FLOW in the 199th", x.tried(199, 1, 0), 0);
        Due.is("FLOW in the 200th", x.tried(200, 1, 0), 101 - 7);
        Due.is("WATER behind the 199th", x.tried(199, 0, 0), 9999);
        Due.is("WATER behind the 200th", x.tried(200, 0, 0), 9999 - 94);
    }

    private static void slack() {
        Due.says("17 slack", "SLACK: what = 0 how many HOURS from now, 1 how long; NONE. UNKNOWN, OUTSIDE.");
        Supplier<TurnedRiver> still = () -> Due.of(Bounds.STILL);
        for (int g = 0; g < 2; g++) {
            int k = g;
            Bounds.answers(still, "slack of " + k, 0, x -> x.slack(k, 0));
            Bounds.answers(still, "slack of " + k + ", how long", 200, x -> x.slack(k, 1));
            for (int what : beside(0, 1)) {
                Bounds.refuses(BUSY, "slack " + what, OUTSIDE, x -> x.slack(k, what));
            }
        }
        for (int k : NO_GATE) {
            Bounds.refuses(BUSY, "slack of " + k, UNKNOWN, x -> x.slack(k, 0));
            Bounds.refuses(BUSY, "UNKNOWN ahead of OUTSIDE, slack of " + k, UNKNOWN, x -> x.slack(k, 2));
        }
        Bounds.refuses(BARE, "slack", UNKNOWN, x -> x.slack(0, 0));
    }

    private static void boat() {
        Due.says("18 boat", "THE BOAT: i = NONE SOONEST, -2 its TOLL, else what it does in HOUR i (0 stays, 1 down, 2 up); NONE: none, or not so many (of -2, if there is none: NOT). UNKNOWN, OUTSIDE (r).");
        Supplier<TurnedRiver> first = () -> Due.of(Bounds.SMALL);
        int[][] want = {{-1, 2}, {-2, 11}, {0, 1}, {1, 1}, {2, NONE}, {-3, NONE}, {LEAST, NONE}, {MOST, NONE}};
        for (int[] w : want) {
            Bounds.answers(first, "boat, i " + w[0], w[1], x -> x.boat(0, 2, 999, w[0]));
        }
        int[][] shut = {{-1, NONE}, {-2, NOT}, {0, NONE}, {-3, NONE}, {LEAST, NONE}, {MOST, NONE}};
        for (int[] w : shut) {
            Bounds.answers(() -> Due.of(Bounds.STILL), "a boat that there is none, i " + w[0], w[1], x -> x.boat(0, 2, 999, w[0]));
        }
        int[][] there = {{-1, 0}, {-2, 0}, {0, NONE}, {1, NONE}, {-3, NONE}};
        for (int node = 0; node < 3; node++) {
            int k = node;
            for (int[] w : there) {
                Bounds.answers(() -> Due.of(Bounds.STILL), "a boat that is there, i " + w[0], w[1], x -> x.boat(k, k, 0, w[0]));
            }
        }
        for (int k : NO_NODE) {
            for (int i : new int[] {-2, -1, 0}) {
                Bounds.refuses(BUSY, "boat from " + k, UNKNOWN, x -> x.boat(k, 0, 1, i));
                Bounds.refuses(BUSY, "boat to " + k, UNKNOWN, x -> x.boat(0, k, 1, i));
                Bounds.refuses(BUSY, "UNKNOWN ahead of OUTSIDE, boat from " + k, UNKNOWN, x -> x.boat(k, 0, -1, i));
                Bounds.refuses(BUSY, "UNKNOWN ahead of OUTSIDE, boat to " + k, UNKNOWN, x -> x.boat(0, k, 1000, i));
            }
        }
        for (int r : beside(0, 999)) {
            for (int i : new int[] {-3, -2, -1, 0}) {
                Bounds.refuses(BUSY, "boat of " + r, OUTSIDE, x -> x.boat(0, 1, r, i));
                Bounds.refuses(BUSY, "boat of " + r + " that is there", OUTSIDE, x -> x.boat(1, 1, r, i));
            }
        }
        Bounds.refuses(BARE, "boat", UNKNOWN, x -> x.boat(0, 0, 0, -1));
        Bounds.refuses(BARE, "boat, its toll", UNKNOWN, x -> x.boat(0, 0, 0, -2));
    }

    private static void sent() {
        Due.says("19 sent", "SENT. UNKNOWN, OUTSIDE (weight, n, h).");
        Supplier<TurnedRiver> still = () -> Due.of(Bounds.STILL);
        int[][] edges = {{0, 0, 1}, {0, 0, 999}, {100, 0, 1}, {100, 100, 999}, {1, 1, 1}, {1, 0, 1}, {50, 49, 1}};
        for (int node = 0; node < 3; node++) {
            int q = node;
            for (int[] e : edges) {
                Bounds.answers(still, "sent " + q + " " + e[0] + " " + e[1] + " " + e[2], 1 << q, x -> x.sent(q, e[0], e[1], e[2]));
            }
        }
        for (int q : NO_NODE) {
            Bounds.refuses(BUSY, "sent " + q, UNKNOWN, x -> x.sent(q, 1, 0, 1));
            Bounds.refuses(BUSY, "UNKNOWN ahead of OUTSIDE, sent " + q, UNKNOWN, x -> x.sent(q, 101, 0, 1));
            Bounds.refuses(BUSY, "UNKNOWN ahead of OUTSIDE, sent " + q, UNKNOWN, x -> x.sent(q, 1, 2, 1));
            Bounds.refuses(BUSY, "UNKNOWN ahead of OUTSIDE, sent " + q, UNKNOWN, x -> x.sent(q, 1, 0, 0));
        }
        for (int n : beside(0, 100)) {
            Bounds.refuses(BUSY, "sent, n " + n, OUTSIDE, x -> x.sent(0, n, 0, 1));
            Bounds.refuses(BUSY, "sent, n and h " + n, OUTSIDE, x -> x.sent(0, n, n, 1));
        }
        for (int n : new int[] {0, 1, 100}) {
            for (int h : beside(0, n)) {
                Bounds.refuses(BUSY, "sent, n " + n + " h " + h, OUTSIDE, x -> x.sent(0, n, h, 1));
            }
        }
        for (int weight : beside(1, 999)) {
            Bounds.refuses(BUSY, "sent of " + weight, OUTSIDE, x -> x.sent(0, 1, 0, weight));
        }
        Bounds.refuses(BARE, "sent", UNKNOWN, x -> x.sent(0, 0, 0, 1));
    }

    private static void ring() {
        Due.says("20 ring", "RING; NONE. UNKNOWN, OUTSIDE.");
        for (int node = 0; node < 3; node++) {
            int k = node;
            for (int weight : new int[] {1, 999}) {
                Bounds.answers(() -> Due.of(Bounds.STILL), "ring at " + k, NONE, x -> x.ring(k, weight));
            }
            for (int weight : beside(1, 999)) {
                Bounds.refuses(BUSY, "ring of " + weight, OUTSIDE, x -> x.ring(k, weight));
            }
        }
        for (int k : NO_NODE) {
            Bounds.refuses(BUSY, "ring at " + k, UNKNOWN, x -> x.ring(k, 1));
            Bounds.refuses(BUSY, "UNKNOWN ahead of OUTSIDE, ring at " + k, UNKNOWN, x -> x.ring(k, 0));
        }
        Bounds.refuses(BARE, "ring", UNKNOWN, x -> x.ring(0, 1));
    }

    private static void drained() {
        Due.says("21 drained", "DRAINED. UNKNOWN, OUTSIDE.");
        Supplier<TurnedRiver> first = () -> Due.of("lake 0 1 90;gate 0 1 1;tide 80;");
        // Behind an HOUR: 80 left by WIDTH 1, 90 by 0, 0 by 9.
        Bounds.answers(first, "drained, w 0 n 1", 80 - 90, x -> x.drained(0, 0, 1));
        Bounds.answers(first, "drained, w 1 n 1", 0, x -> x.drained(0, 1, 1));
        Bounds.answers(first, "drained, w 9 n 1", 80 - 0, x -> x.drained(0, 9, 1));
        Bounds.answers(() -> Due.of(Bounds.STILL), "drained, n 200", 0, x -> x.drained(1, 9, 200));
        for (int g = 0; g < 2; g++) {
            int k = g;
            for (int w : beside(0, 9)) {
                Bounds.refuses(BUSY, "drained, w " + w, OUTSIDE, x -> x.drained(k, w, 1));
            }
            for (int n : beside(1, 200)) {
                Bounds.refuses(BUSY, "drained, n " + n, OUTSIDE, x -> x.drained(k, 1, n));
            }
        }
        for (int k : NO_GATE) {
            Bounds.refuses(BUSY, "drained by " + k, UNKNOWN, x -> x.drained(k, 1, 1));
            Bounds.refuses(BUSY, "UNKNOWN ahead of OUTSIDE, drained by " + k, UNKNOWN, x -> x.drained(k, 10, 1));
            Bounds.refuses(BUSY, "UNKNOWN ahead of OUTSIDE, drained by " + k, UNKNOWN, x -> x.drained(k, 1, 201));
        }
        Bounds.refuses(BARE, "drained", UNKNOWN, x -> x.drained(0, 0, 1));
    }

    private static void nearest() {
        Due.says("22 nearest", "NEAREST to v (0 .. 99999) behind n HOURS. UNKNOWN, OUTSIDE.");
        Supplier<TurnedRiver> first = () -> Due.of("lake 0 1 0;tide 100;");
        Bounds.answers(first, "nearest to 0", 0, x -> x.nearest(0, 0, 1));
        Bounds.answers(first, "nearest to 99999", 9, x -> x.nearest(0, 99999, 1));
        Bounds.answers(() -> Due.of(Bounds.STILL), "nearest, n 200", 0, x -> x.nearest(1, 99999, 200));
        for (int g = 0; g < 2; g++) {
            int k = g;
            for (int v : beside(0, 99999)) {
                Bounds.refuses(BUSY, "nearest to " + v, OUTSIDE, x -> x.nearest(k, v, 1));
            }
            for (int n : beside(1, 200)) {
                Bounds.refuses(BUSY, "nearest, n " + n, OUTSIDE, x -> x.nearest(k, 1, n));
            }
        }
        for (int k : NO_GATE) {
            Bounds.refuses(BUSY, "nearest by " + k, UNKNOWN, x -> x.nearest(k, 1, 1));
            Bounds.refuses(BUSY, "UNKNOWN ahead of OUTSIDE, nearest by " + k, UNKNOWN, x -> x.nearest(k, -1, 1));
            Bounds.refuses(BUSY, "UNKNOWN ahead of OUTSIDE, nearest by " + k, UNKNOWN, x -> x.nearest(k, 1, 0));
        }
        Bounds.refuses(BARE, "nearest", UNKNOWN, x -> x.nearest(0, 0, 1));
    }

    private static void stopped() {
        Due.says("23 stopped", "STOPPED; NONE. OUTSIDE, NOT: there are no NODES.");
        for (int n : new int[] {1, 100}) {
            Bounds.answers(() -> Due.of(Bounds.SMALL), "no LOGS, n " + n, 0, x -> x.stopped(n));
            Bounds.refuses(BARE, "stopped, n " + n, NOT, x -> x.stopped(n));
        }
        for (int n : beside(1, 100)) {
            Bounds.refuses(BUSY, "stopped, n " + n, OUTSIDE, x -> x.stopped(n));
            Bounds.refuses(BARE, "OUTSIDE ahead of NOT, stopped, n " + n, OUTSIDE, x -> x.stopped(n));
        }
    }

    private static void write() {
        Due.says("24 write", "An entry (0 .. 99999) of THE BOOK: how many it has. OUTSIDE, FULL (60).");
        TurnedRiver x = new TurnedRiver();
        for (int i = 1; i <= 60; i++) {
            Due.is("write", x.write(i % 2 == 0 ? 0 : 99999), i);
        }
        Due.is("a 61st", x.write(0), FULL);
        Due.is("entries", x.told(5), 60);
        Bounds.refuses(Bounds::booked, "a 61st", FULL, y -> y.write(0));
        Bounds.refuses(Bounds::booked, "a 61st", FULL, y -> y.write(99999));
        for (int v : beside(0, 99999)) {
            Bounds.refuses(BUSY, "write " + v, OUTSIDE, y -> y.write(v));
            Bounds.refuses(Bounds::booked, "OUTSIDE ahead of FULL, write " + v, OUTSIDE, y -> y.write(v));
        }
    }

    private static void tear() {
        Due.says("25 tear", "THE BOOK is empty: how many it had.");
        Bounds.answers(NEW, "tear of none", 0, TurnedRiver::tear);
        TurnedRiver x = Bounds.booked();
        Due.is("tear of 60", x.tear(), 60);
        Due.is("entries", x.told(5), 0);
        Due.is("tear of none", x.tear(), 0);
        Due.is("room again", x.write(1), 1);
    }

    private static void judge() {
        Due.says("26 judge", "WRONG by more than e (0 .. 9999); NONE. OUTSIDE, NOT: there are no NODES.");
        Bounds.answers(BUSY, "all right", NONE, x -> x.judge(0));
        Bounds.answers(BUSY, "all right", NONE, x -> x.judge(9999));
        for (int e : beside(0, 9999)) {
            Bounds.refuses(BUSY, "judge " + e, OUTSIDE, x -> x.judge(e));
            Bounds.refuses(BARE, "OUTSIDE ahead of NOT, judge " + e, OUTSIDE, x -> x.judge(e));
        }
        Bounds.refuses(BARE, "judge", NOT, x -> x.judge(0));
        Bounds.refuses(BARE, "judge", NOT, x -> x.judge(9999));
        Bounds.refuses(NEW, "judge of an empty book", NOT, x -> x.judge(0));
        Bounds.answers(() -> Due.of(Bounds.SMALL), "an empty book", NONE, x -> x.judge(0));
    }

    private static void seed() {
        Due.says("27 seed", "THE SEED becomes v (0 .. 2147483647): what it was. OUTSIDE.");
        TurnedRiver x = Bounds.busy();
        Due.is("seed 2147483647", x.seed(2147483647), 77);
        Due.is("seed 0", x.seed(0), 2147483647);
        Due.is("seed", x.seed(1), 0);
        for (int v : new int[] {-1, LEAST}) {
            Bounds.refuses(BUSY, "seed " + v, OUTSIDE, y -> y.seed(v));
            Bounds.refuses(BARE, "seed " + v, OUTSIDE, y -> y.seed(v));
        }
    }

    private static void keep() {
        Due.says("28 keep", "IMAGE i becomes what is so: 1. UNKNOWN.");
        for (int i = 0; i < 2; i++) {
            TurnedRiver x = Bounds.busy();
            Due.is("keep", x.keep(i), 1);
            x.go(5);
            Due.is("go back", x.goBack(i), 1);
            Due.is("HOUR of it", x.told(3), 2);
            Due.is("the other", x.goBack(1 - i), 1);
            Due.is("HOUR of the other", x.told(3), 1 - i);
        }
        for (int i : beside(0, 1)) {
            Bounds.refuses(BUSY, "keep " + i, UNKNOWN, x -> x.keep(i));
            Bounds.refuses(NEW, "keep " + i, UNKNOWN, x -> x.keep(i));
        }
    }

    private static void goBack() {
        Due.says("29 goBack", "What is so becomes IMAGE i: 1. UNKNOWN, NOT: it was not kept.");
        for (int i : beside(0, 1)) {
            Bounds.refuses(BUSY, "goBack " + i, UNKNOWN, x -> x.goBack(i));
            Bounds.refuses(NEW, "UNKNOWN ahead of NOT, goBack " + i, UNKNOWN, x -> x.goBack(i));
        }
        for (int image = 0; image < 2; image++) {
            int i = image;
            Bounds.refuses(NEW, "goBack " + i, NOT, x -> x.goBack(i));
            Supplier<TurnedRiver> other = () -> {
                TurnedRiver x = Due.of(Bounds.SMALL);
                x.go(1);
                x.keep(1 - i);
                x.go(1);
                return x;
            };
            Bounds.refuses(other, "goBack " + i + ", the other was kept", NOT, x -> x.goBack(i));
            TurnedRiver x = other.get();
            Due.is("goBack to the other", x.goBack(1 - i), 1);
            Due.is("goBack again", x.goBack(1 - i), 1);
            Due.is("HOUR", x.told(3), 1);
        }
        TurnedRiver x = Bounds.quiet();
        Due.river(x, "lake 0 1 0;");
        Due.is("IMAGES are gone by river()", x.goBack(0), NOT);
        TurnedRiver y = Bounds.quiet();
        Due.river(y, "x");
        Due.is("but not by a FAULT", y.goBack(0), 1);
    }

    private static void withoutNodes() {
        Due.says("1 TurnedRiver()", "No NODES.");
        for (int i : new int[] {-2, -1, 0, 1, 2}) {
            Bounds.refuses(NEW, "node " + i, UNKNOWN, x -> x.node(i, 0));
            Bounds.refuses(NEW, "gate " + i, UNKNOWN, x -> x.gate(i, 0));
            Bounds.refuses(NEW, "width " + i, UNKNOWN, x -> x.width(i, 0));
            Bounds.refuses(NEW, "pour " + i, UNKNOWN, x -> x.pour(i, 0));
            Bounds.refuses(NEW, "log " + i, UNKNOWN, x -> x.log(i, 1));
            Bounds.refuses(NEW, "wood " + i, UNKNOWN, x -> x.wood(i, 1));
            Bounds.refuses(NEW, "slack " + i, UNKNOWN, x -> x.slack(i, 1));
            Bounds.refuses(NEW, "boat " + i, UNKNOWN, x -> x.boat(i, i, 1, 0));
            Bounds.refuses(NEW, "sent " + i, UNKNOWN, x -> x.sent(i, 0, 0, 1));
            Bounds.refuses(NEW, "ring " + i, UNKNOWN, x -> x.ring(i, 1));
            Bounds.refuses(NEW, "drained " + i, UNKNOWN, x -> x.drained(i, 1, 1));
            Bounds.refuses(NEW, "nearest " + i, UNKNOWN, x -> x.nearest(i, 1, 1));
            for (int what = 0; what <= 2; what++) {
                int w = what;
                Bounds.refuses(NEW, "tried " + i, UNKNOWN, x -> x.tried(1, w, i));
            }
        }
        Bounds.refuses(NEW, "go", NOT, x -> x.go(1));
        Bounds.refuses(NEW, "showers", NOT, x -> x.showers(1, 1));
        Bounds.refuses(NEW, "stopped", NOT, x -> x.stopped(1));
    }

    /** The first and the last NODE and GATE of ten and nine. */
    private static void greatestRiver() {
        Due.says("Terms 1", "NODES from above: 0 the lake, PONDS, the last one the sea. GATE k is between NODES k and k and 1.");
        TurnedRiver x = Bounds.long10();
        for (int k : new int[] {10, -1}) {
            Due.is("tried WATER " + k, x.tried(1, 0, k), UNKNOWN);
            Due.is("tried LEVEL " + k, x.tried(1, 2, k), UNKNOWN);
            Due.is("boat from " + k, x.boat(k, 0, 0, -1), UNKNOWN);
            Due.is("boat to " + k, x.boat(0, k, 0, -1), UNKNOWN);
            Due.is("sent " + k, x.sent(k, 0, 0, 1), UNKNOWN);
            Due.is("ring " + k, x.ring(k, 1), UNKNOWN);
        }
        for (int k : new int[] {9, 10, -1}) {
            Due.is("tried FLOW " + k, x.tried(1, 1, k), UNKNOWN);
            Due.is("slack " + k, x.slack(k, 0), UNKNOWN);
            Due.is("drained " + k, x.drained(k, 0, 1), UNKNOWN);
            Due.is("nearest " + k, x.nearest(k, 0, 1), UNKNOWN);
            Due.is("pour " + k, x.pour(k, 0), UNKNOWN);
        }
        // Gate 7 lets 55 of the last pond's 80 go up first.
        Due.is("FLOW of gate 8", x.tried(1, 1, 8), 25);
        Due.is("WATER of the sea", x.tried(1, 0, 9), 0);
        Due.is("sent from the sea", x.sent(9, 0, 0, 1), 512);
        Due.is("boat to the sea", x.boat(9, 9, 0, -1), 0);
        Due.is("pour the last pond", x.pour(8, 1), 80);
        Due.is("drained by gate 8", x.drained(8, 0, 1), 0);
        Due.holds("slack of gate 8", x.slack(8, 0) >= NONE);
        Due.holds("nearest by gate 8", x.nearest(8, 0, 1) == 0);
    }
}

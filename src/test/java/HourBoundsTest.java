/**
 * The boundary cases of what goes on in HOURS and of what is TRIED (promises 9 to 29 with parts 2 and 3 of the terms):
 * each test stands on the last case on the one side and on the first on the other.
 */
public final class HourBoundsTest {
    private static final int NONE = Due.NONE, NOT = Due.NOT;
    /** A gate that is shut but for what a plan tells; its FALL is 100. */
    private static final String SHUT = "lake 1 99 9801;gate 0 0 3;";

    public static void main(String[] args) {
        level();
        hourOfTheDay();
        fall();
        flowByWater();
        flowInOrder();
        planFirst();
        rainAtLeast();
        rainBehind();
        logsByWeight();
        logsBothWays();
        logsAtTheEnds();
        tollTurnsHome();
        triedByThePlan();
        slackHours();
        slackLength();
        boatAgainst();
        boatHours();
        boatWays();
        sentHours();
        ringHours();
        drainedHours();
        nearestOfLike();
        stoppedHours();
        stoppedGates();
        bookByMore();
        bookEntries();
        showersDraw();
        showersBehindRain();
        imagesKeep();
        imagesDoNotKeep();
        fiveHundredAndTwelve();
        Due.end();
    }

    private static void level() {
        Due.says("Terms 2", "LEVEL of a NODE: FLOOR and WATER / AREA");
        int[][] cases = {{0, 7}, {98, 7}, {99, 8}, {197, 8}, {198, 9}, {9999, 108}};
        for (int[] c : cases) {
            TurnedRiver x = Due.of("lake 7 99 0;pond 7 99 0;gate 0 0 0;gate 1 0 0;");
            x.pour(0, c[0]);
            Due.is("lake of " + c[0], x.node(0, 3), c[1]);
            x.pour(1, c[0]);
            Due.is("pond of " + c[0], x.node(1, 3), c[1]);
            Due.is("an HOUR on", x.tried(1, 2, 1), c[1]);
        }
    }

    private static void hourOfTheDay() {
        Due.says("Terms 2", "the hour of the day is what is left over by 24");
        StringBuilder row = new StringBuilder("100");
        for (int h = 1; h < 24; h++) {
            row.append(',').append(100 + h);
        }
        TurnedRiver x = Due.of("lake 0 1 0;gate 0 0 0;tide " + row + ";rain 99" + ",50".repeat(22) + ",60;");
        int[] hours = {0, 1, 22, 23, 24, 25, 47, 48, 199, 200};
        for (int h : hours) {
            while (x.told(3) < h) {
                x.go(1);
            }
            Due.is("tide of HOUR " + h, x.node(1, 3), 100 + h % 24);
            Due.is("rain till HOUR " + h, x.node(0, 2), (h + 23) / 24 * 49 + h / 24 * 10);
        }
    }

    private static void fall() {
        Due.says("Terms 2", "FLOW: FALL times WIDTH, from above to below (below 0: up)");
        int[][] cases = {{50, 50, 9, 0}, {51, 50, 1, 1}, {50, 51, 1, -1}, {51, 50, 9, 9}, {50, 51, 9, -9}, {51, 50, 0, 0}, {50, 51, 0, 0}};
        for (int[] c : cases) {
            TurnedRiver x = Due.of("lake 0 99 0;tide " + c[1] + ";gate 0 " + c[2] + " 0;");
            x.pour(0, 99 * c[0]);
            x.go(1);
            Due.is("LEVELS " + c[0] + " and " + c[1] + ", WIDTH " + c[2], x.gate(0, 2), c[3]);
            Due.is("WATER", x.node(0, 2), 99 * c[0] - c[3]);
            Due.is("GROUND DOWN", x.gate(0, 3), Math.max(0, c[3]));
            Due.is("GROUND UP", x.gate(0, 4), Math.max(0, -c[3]));
        }
    }

    private static void flowByWater() {
        Due.says("Terms 2", "it goes as far as there is WATER where it comes from then (the sea has all, takes all)");
        int[][] cases = {{0, 0}, {1, 1}, {4, 4}, {5, 5}, {6, 5}};
        for (int[] c : cases) {
            TurnedRiver down = Due.of("lake 5 99 " + c[0] + ";gate 0 1 0;");
            down.go(1);
            Due.is("down, of " + c[0], down.gate(0, 2), c[1]);
            Due.is("what is left", down.node(0, 2), c[0] - c[1]);
            TurnedRiver up = Due.of("lake 0 99 0;pond 5 99 " + c[0] + ";gate 0 1 0;gate 1 0 0;");
            up.go(1);
            Due.is("up, of " + c[0], up.gate(0, 2), -c[1]);
            Due.is("what is left", up.node(1, 2), c[0] - c[1]);
            Due.is("what came", up.node(0, 2), c[1]);
        }
        TurnedRiver has = Due.of("lake 0 1 0;tide 999;gate 0 9 0;");
        has.go(1);
        Due.is("the sea has all", has.gate(0, 2), -8991);
        Due.is("the lake", has.node(0, 2), 8991);
        TurnedRiver takes = Due.of("lake 999 1 9999;gate 0 9 0;");
        takes.go(1);
        Due.is("the sea takes all", takes.gate(0, 2), 9999);
        Due.is("and has none to tell", takes.node(1, 2), 0);
    }

    private static void flowInOrder() {
        Due.says("Terms 2", "LEVEL .. all as the HOUR begins .. gate by gate, from 0 on .. WATER where it comes from then");
        TurnedRiver x = Due.of("lake 100 99 7;pond 5 99 0;gate 0 1 0;gate 1 1 0;");
        x.go(1);
        Due.is("down to the pond", x.gate(0, 2), 7);
        Due.is("5 of these go on at once", x.gate(1, 2), 5);
        Due.is("2 stay", x.node(1, 2), 2);
        TurnedRiver y = Due.of("lake 0 99 0;pond 5 99 7;gate 0 1 0;gate 1 1 0;");
        y.go(1);
        Due.is("up from the pond", y.gate(0, 2), -5);
        Due.is("2 are left for the gate below", y.gate(1, 2), 2);
        TurnedRiver z = Due.of("lake 50 1 0;pond 0 1 50;gate 0 9 0;gate 1 9 0;tide 50;");
        z.go(1);
        Due.is("of like LEVELS none", z.gate(0, 2), 0);
        Due.is("nor below", z.gate(1, 2), 0);
        TurnedRiver v = Due.of("lake 60 1 9;pond 0 1 50;gate 0 9 0;gate 1 9 0;tide 50;");
        v.go(1);
        Due.is("LEVEL is not as behind gate 0", v.gate(1, 2), 0);
        Due.is("but 9 came", v.node(1, 2), 59);
    }

    private static void planFirst() {
        Due.says("Terms 2", "An HOUR: first what THE PLAN tells for it (in order) is set");
        TurnedRiver x = Due.of(SHUT);
        Due.plan(x, "at 1 0 1;at 1 0 2;at 2 0 0;");
        int[][] want = {{0, 0}, {2, 200}, {0, 0}};
        for (int[] w : want) {
            x.go(1);
            Due.is("WIDTH of the HOUR", x.gate(0, 0), w[0]);
            Due.is("FLOW by it", x.gate(0, 2), w[1]);
        }
        x.width(0, 3);
        x.go(1);
        Due.is("no HOUR again", x.gate(0, 0), 3);
        TurnedRiver y = Due.of(SHUT);
        Due.plan(y, "at 0 0 1;");
        y.width(0, 9);
        y.go(1);
        Due.is("THE PLAN's WIDTH, not what was set ahead of it", y.gate(0, 2), 100);
    }

    private static void rainAtLeast() {
        Due.says("Terms 2", "Then RAIN: G less 50 of the hour of the day comes to the lake's WATER (0 at least)");
        int[][] cases = {{0, 0, 0}, {0, 49, 0}, {0, 50, 0}, {0, 51, 1}, {49, 0, 0}, {49, 1, 0}, {49, 2, 1}, {50, 0, 0}, {51, 0, 1}, {99, 9999, 10048}};
        for (int[] c : cases) {
            TurnedRiver x = Due.of("lake 0 1 " + c[1] + ";gate 0 0 0;rain " + c[0] + ";");
            x.go(1);
            Due.is("rain " + c[0] + " to " + c[1], x.node(0, 2), c[2]);
            x.go(1);
            Due.is("rain untold", x.node(0, 2), c[2]);
        }
    }

    private static void rainBehind() {
        Due.says("Terms 2", "Then LOGS go. Then RAIN");
        TurnedRiver x = Due.of("lake 0 1 49;gate 0 1 0;rain 99,0;");
        x.log(0, 50);
        x.go(1);
        Due.is("what rains does not flow in its HOUR", x.gate(0, 2), 49);
        Due.is("nor bear a LOG", x.wood(0, 0), 0);
        Due.is("it stays", x.node(0, 2), 49);
        x.go(1);
        Due.is("what is to go by RAIN flows first", x.gate(0, 2), 49);
    }

    private static void logsByWeight() {
        Due.says("Terms 2", "one goes down, if FLOW of the GATE below is its WEIGHT or more, or up, if the FLOW up of the GATE above is");
        int[][] cases = {{1, 1}, {2, 1}, {998, 998}, {999, 998}, {999, 999}, {999, 1000}};
        for (int[] c : cases) {
            boolean goes = c[1] >= c[0];
            TurnedRiver down = Due.of("lake 999 99 " + c[1] + ";gate 0 9 3;");
            down.log(0, c[0]);
            down.go(1);
            Due.is("FLOW down", down.gate(0, 2), c[1]);
            Due.is("WEIGHT " + c[0] + " by " + c[1] + " down", down.wood(0, 0), goes ? 1 : 0);
            Due.is("its way", down.wood(0, 6), goes ? 1 : 0);
            Due.is("its TOLL", down.wood(0, 3), goes ? 3 : 0);
            TurnedRiver up = Due.of("lake 0 99 0;pond 999 99 " + c[1] + ";gate 0 9 3;gate 1 0 0;");
            up.log(1, c[0]);
            up.go(1);
            Due.is("FLOW up", up.gate(0, 2), -c[1]);
            Due.is("WEIGHT " + c[0] + " by " + c[1] + " up", up.wood(0, 0), goes ? 0 : 1);
            Due.is("its way", up.wood(0, 6), goes ? -1 : 0);
            Due.is("its TOLL", up.wood(0, 3), goes ? -3 : 0);
        }
    }

    private static void logsBothWays() {
        Due.says("Terms 2", "if both are: where more flows, of like ones down");
        // FLOOR of the lake, the tide, WEIGHT, the NODE where the LOG comes to: the pond's LEVEL is 30.
        int[][] cases = {{0, 0, 1, 2}, {0, 0, 30, 2}, {0, 0, 31, 1}, {0, 1, 1, 0}, {0, 1, 29, 0}, {0, 1, 30, 0}, {0, 1, 31, 1},
            {1, 0, 1, 2}, {1, 0, 29, 2}, {1, 0, 30, 2}, {1, 0, 31, 1}};
        for (int[] c : cases) {
            TurnedRiver x = Due.of("lake " + c[0] + " 9 0;pond 0 9 270;tide " + c[1] + ";gate 0 1 0;gate 1 1 0;");
            boolean sent = (x.sent(c[3], 1, 0, c[2]) & 2) != 0;
            x.log(1, c[2]);
            x.go(1);
            String call = "up " + -x.gate(0, 2) + ", down " + x.gate(1, 2) + ", WEIGHT " + c[2];
            Due.is(call, x.wood(0, 0), c[3]);
            Due.holds(call + ", sent from the pond", sent);
        }
    }

    private static void logsAtTheEnds() {
        Due.says("Terms 2", "LOGS (12 at most) lie in NODES");
        TurnedRiver x = Due.of("lake 0 1 0;pond 0 1 0;tide 999,0;gate 0 9 1;gate 1 9 1;");
        x.log(0, 1);
        x.log(2, 1);
        x.go(1);
        Due.is("the lake has no GATE above", x.wood(0, 0), 0);
        Due.is("up from the sea", x.wood(1, 0), 1);
        x.go(1);
        Due.is("the lake again", x.wood(0, 0), 0);
        TurnedRiver y = Due.of("lake 9 1 99;");
        y.log(1, 1);
        y.go(1);
        Due.is("the sea has no GATE below", y.wood(0, 0), 1);
        Due.is("it did not go", y.wood(0, 6), 0);
        TurnedRiver z = Due.of("lake 99 1 99;");
        for (int l = 0; l < 12; l++) {
            z.log(0, 1);
        }
        z.go(1);
        Due.is("all twelve go", z.node(1, 4), 4095);
    }

    private static void tollTurnsHome() {
        Due.says("Terms 2", "TURNS: how often it went another way than the last time it went. HOME: how often it came to the NODE where it was set in.");
        TurnedRiver x = Due.of("lake 0 1 0;tide 0,0,0,9,9,0;gate 0 1 99;");
        x.log(0, 5);
        int[] poured = {9, 0, 0, 0, 9, 9};
        // NODE, TOLL, TURNS, HOME, way: it goes down, stays, stays, comes home, stays, goes down.
        int[][] want = {{1, 99, 0, 0, 1}, {1, 99, 0, 0, 1}, {1, 99, 0, 0, 1}, {0, 0, 1, 1, -1}, {0, 0, 1, 1, -1}, {1, 99, 2, 1, 1}};
        for (int h = 0; h < 6; h++) {
            x.pour(0, poured[h]);
            x.go(1);
            int[] got = {x.wood(0, 0), x.wood(0, 3), x.wood(0, 4), x.wood(0, 5), x.wood(0, 6)};
            for (int i = 0; i < 5; i++) {
                Due.is("HOUR " + h + ", " + i, got[i], want[h][i]);
            }
        }
        TurnedRiver y = Due.of("lake 0 1 9;pond 0 1 0;gate 0 1 2;gate 1 0 3;");
        y.log(0, 5);
        y.go(1);
        y.width(0, 0);
        y.go(1);
        Due.is("down, stays", y.wood(0, 0), 1);
        y.width(1, 1);
        y.go(1);
        Due.is("down, stays, down", y.wood(0, 0), 2);
        Due.is("is no turn", y.wood(0, 4), 0);
        Due.is("nor home", y.wood(0, 5), 0);
        Due.is("TOLL of both", y.wood(0, 3), 5);
        TurnedRiver z = Due.of(Bounds.STILL);
        z.log(1, 1);
        z.go(5);
        Due.is("to stay is not to come home", z.wood(0, 5), 0);
    }

    private static void triedByThePlan() {
        Due.says("Terms 3", "TRIED is from how all is now, by THE PLAN; nothing changes by it.");
        TurnedRiver x = Due.of(SHUT);
        Due.plan(x, "at 2 0 1;at 3 0 0;");
        int[] want = {9801, 9801, 9701, 9701};
        for (int n = 1; n <= 4; n++) {
            Due.is("tried " + n, x.tried(n, 0, 0), want[n - 1]);
        }
        Due.is("WIDTH now", x.gate(0, 0), 0);
        x.go(2);
        Due.is("of THE HOUR", x.tried(1, 1, 0), 100);
        x.go(1);
        Due.is("past", x.tried(1, 1, 0), 0);
        Bounds.answers(Bounds::busy, "nothing changes by tried", 13 + 15, y -> y.tried(1, 0, 0));
    }

    private static void slackHours() {
        Due.says("Terms 3", "SLACK of a GATE: the first HOUR from now on (200 at most) in which nothing flows through it .. NONE.");
        String tidal = "lake 0 99 9999;gate 0 1 1;tide 999" + ",999".repeat(23) + ";";
        for (int h : new int[] {0, 1, 198, 199, 200, 201}) {
            TurnedRiver x = Due.of(tidal);
            Due.plan(x, "at " + h + " 0 0;");
            Due.is("shut in HOUR " + h, x.slack(0, 0), h < 200 ? h : NONE);
            Due.is("shut in HOUR " + h + ", how long", x.slack(0, 1), h < 200 ? 200 - h : NONE);
            x.go(1);
            if (h > 0) {
                Due.is("an HOUR later", x.slack(0, 0), h < 201 ? h - 1 : NONE);
            }
        }
        Due.is("without a plan", Due.of(tidal).slack(0, 0), NONE);
        Due.is("without a plan, how long", Due.of(tidal).slack(0, 1), NONE);
    }

    private static void slackLength() {
        Due.says("Terms 3", "how many HOURS on end (200 at most in all)");
        // Shut till HOUR h, when 100 flow.
        for (int h : new int[] {1, 2, 199, 200, 201}) {
            TurnedRiver x = Due.of(SHUT);
            Due.plan(x, "at " + h + " 0 1;");
            Due.is("from now", x.slack(0, 0), 0);
            Due.is("till HOUR " + h, x.slack(0, 1), Math.min(h, 200));
        }
        for (int h : new int[] {4, 5, 199, 200}) {
            TurnedRiver x = Due.of(SHUT);
            Due.plan(x, "at 0 0 1;at 3 0 0;at " + h + " 0 1;");
            Due.is("from HOUR 3", x.slack(0, 0), 3);
            Due.is("till HOUR " + h, x.slack(0, 1), Math.min(h, 200) - 3);
        }
        TurnedRiver first = Due.of(SHUT);
        Due.plan(first, "at 1 0 1;at 2 0 0;");
        Due.is("the first, not the longest", first.slack(0, 1), 1);
        TurnedRiver dry = Due.of("lake 5 1 0;gate 0 5 1;");
        Due.is("open, but without WATER", dry.slack(0, 1), 200);
        TurnedRiver even = Due.of("lake 0 1 5;tide 5;gate 0 5 1;");
        Due.is("open, of like LEVELS", even.slack(0, 0), 0);
        Due.is("for an HOUR", even.slack(0, 1), 1);
    }

    private static void boatAgainst() {
        Due.says("Terms 3", "through a GATE whose WIDTH is not 0 in that HOUR, and whose FLOW against it is r or less");
        int[] flows = {1, 2, 998, 999};
        for (int flow : flows) {
            // In HOUR 0 all WATER flows down: in HOUR 1 nothing does.
            TurnedRiver up = Due.of("lake " + flow + " 99 " + flow + ";gate 0 1 1;");
            for (int r : new int[] {flow - 1, flow}) {
                Due.is("up against " + flow + " with " + r, up.boat(1, 0, r, NONE), r == flow ? 1 : 2);
            }
            TurnedRiver down = Due.of("lake 0 1 0;gate 0 1 1;tide " + flow + ";");
            for (int r : new int[] {flow - 1, flow}) {
                Due.is("down against " + flow + " with " + r, down.boat(0, 1, r, NONE), r == flow ? 1 : 2);
            }
        }
        TurnedRiver more = Due.of("lake 0 1 0;gate 0 2 1;tide 500;");
        Due.is("down against 1000 with 999", more.boat(0, 1, 999, NONE), 2);
        TurnedRiver much = Due.of("lake 0 1 1000;gate 0 1 1;");
        Due.is("up against 1000 with 999", much.boat(1, 0, 999, NONE), 2);
        Due.is("down with 1000, with 0", much.boat(0, 1, 0, NONE), 1);
        TurnedRiver none = Due.of("lake 0 1 0;gate 0 1 1;");
        Due.is("down where nothing flows, with 0", none.boat(0, 1, 0, NONE), 1);
        Due.is("up where nothing flows, with 0", none.boat(1, 0, 0, NONE), 1);
        none.width(0, 0);
        Due.is("down through WIDTH 0", none.boat(0, 1, 999, NONE), NONE);
        Due.is("up through WIDTH 0", none.boat(1, 0, 999, NONE), NONE);
        Due.plan(none, "at 1 0 1;at 2 0 0;");
        Due.is("in the HOUR in which it is open", none.boat(1, 0, 0, NONE), 2);
        none.go(1);
        Due.is("in that HOUR", none.boat(1, 0, 0, NONE), 1);
        none.go(1);
        Due.is("behind it", none.boat(1, 0, 0, NONE), NONE);
    }

    private static void boatHours() {
        Due.says("Terms 3", "SOONEST: the fewest HOURS from now (100 at most) .. NONE.");
        for (int h : new int[] {0, 1, 98, 99, 100}) {
            TurnedRiver x = Due.of(SHUT);
            Due.plan(x, "at " + h + " 0 1;");
            boolean comes = h < 100;
            Due.is("open in HOUR " + h, x.boat(0, 1, 0, NONE), comes ? h + 1 : NONE);
            Due.is("up, open in HOUR " + h, x.boat(1, 0, 999, NONE), comes ? h + 1 : NONE);
            Due.is("its TOLL", x.boat(0, 1, 0, -2), comes ? 3 : NOT);
            Due.is("its TOLL up", x.boat(1, 0, 999, -2), comes ? -3 : NOT);
            Due.is("what it does last", x.boat(0, 1, 0, h), comes ? 1 : NONE);
            Due.is("what it does last, up", x.boat(1, 0, 999, h), comes ? 2 : NONE);
            Due.is("not so many", x.boat(0, 1, 0, h + 1), NONE);
            for (int i = 0; i < h; i += 7) {
                Due.is("it stays in HOUR " + i, x.boat(0, 1, 0, i), comes ? 0 : NONE);
            }
        }
        TurnedRiver most = Due.of("lake 0 1 0;" + "pond 0 1 0;".repeat(8));
        Due.is("nine gates down", most.boat(0, 9, 0, NONE), 9);
        Due.is("nine gates up", most.boat(9, 0, 0, NONE), 9);
        Due.is("TOLL down", most.boat(0, 9, 0, -2), 9);
        Due.is("TOLL up", most.boat(9, 0, 0, -2), -9);
        for (int i = 0; i < 9; i++) {
            Due.is("down in HOUR " + i, most.boat(0, 9, 0, i), 1);
            Due.is("up in HOUR " + i, most.boat(9, 0, 0, i), 2);
        }
        Due.is("not so many", most.boat(0, 9, 0, 9), NONE);
    }

    private static void boatWays() {
        Due.says("Terms 3", "of like ones the first (HOUR by HOUR: stays, down, up)");
        TurnedRiver x = Due.of("lake 0 1 0;pond 0 1 0;gate 0 1 0;gate 1 0 99;");
        Due.plan(x, "at 3 1 1;at 4 1 0;");
        int[] down = {0, 0, 1, 1};
        for (int i = 0; i < 4; i++) {
            Due.is("it stays as long as it can, HOUR " + i, x.boat(0, 2, 0, i), down[i]);
        }
        Due.is("SOONEST", x.boat(0, 2, 0, NONE), 4);
        Due.is("TOLL", x.boat(0, 2, 0, -2), 99);
        int[] up = {0, 0, 0, 2, 2};
        for (int i = 0; i < 5; i++) {
            Due.is("up, HOUR " + i, x.boat(2, 0, 0, i), up[i]);
        }
        Due.plan(x, "at 1 0 0;at 3 1 1;at 4 1 0;");
        int[] early = {1, 0, 0, 1};
        for (int i = 0; i < 4; i++) {
            Due.is("gate 0 shuts in HOUR 1, HOUR " + i, x.boat(0, 2, 0, i), early[i]);
        }
        Due.plan(x, "at 0 0 0;at 3 1 1;at 4 1 0;");
        Due.is("gate 0 is shut from HOUR 0 on", x.boat(0, 2, 0, NONE), NONE);
        Due.plan(x, "at 0 0 0;at 0 1 1;at 1 1 0;at 3 0 1;");
        int[] upEarly = {2, 0, 0, 2};
        for (int i = 0; i < 4; i++) {
            Due.is("up, gate 1 shuts in HOUR 1, HOUR " + i, x.boat(2, 0, 0, i), upEarly[i]);
        }
    }

    private static void sentHours() {
        Due.says("Terms 3", "SENT: NODES from which something of a WEIGHT, set in ahead of the HOUR h from now, is at NODE q ahead of the HOUR n from now (h n at most; n 100 at most): the SET");
        for (int h : new int[] {0, 1, 50, 98, 99}) {
            TurnedRiver x = Due.of(SHUT);
            Due.plan(x, "at " + h + " 0 1;at " + (h + 1) + " 0 0;");
            // 100 flow down in HOUR h alone.
            Due.is("behind that HOUR", x.sent(1, h + 1, 0, 100), 3);
            Due.is("from the lake none is in it", x.sent(0, h + 1, 0, 100), 0);
            Due.is("ahead of that HOUR", x.sent(1, h, 0, 100), 2);
            Due.is("set in ahead of it", x.sent(1, h + 1, h, 100), 3);
            Due.is("set in behind it", x.sent(1, h + 1, h + 1, 100), 2);
            Due.is("at the end", x.sent(1, 100, h, 100), 3);
            Due.is("too heavy", x.sent(1, h + 1, 0, 101), 2);
        }
        TurnedRiver late = Due.of(SHUT);
        Due.plan(late, "at 100 0 1;");
        Due.is("behind a hundred HOURS", late.sent(1, 100, 0, 1), 2);
        late.go(1);
        Due.is("the hundredth from now", late.sent(1, 100, 0, 1), 3);
        TurnedRiver turned = Due.of("lake 0 1 0;tide 9;gate 0 1 0;");
        Due.is("up", turned.sent(0, 1, 0, 9), 3);
        Due.is("and back through its turn", turned.sent(1, 2, 0, 9), 3);
        Due.is("set in between", turned.sent(1, 2, 1, 9), 3);
        Due.is("set in behind", turned.sent(1, 2, 2, 9), 2);
        TurnedRiver most = Due.of("lake 0 1 0;" + "pond 0 1 0;".repeat(8));
        Due.is("the sea's bit", most.sent(9, 100, 0, 1), 512);
        Due.is("the lake's bit", most.sent(0, 100, 0, 1), 1);
    }

    private static void ringHours() {
        Due.says("Terms 3", "RING: how many HOURS till something of a WEIGHT set in at a NODE now is there again, having left it (200 at most); NONE.");
        String tidal = "lake 0 1 0;tide 9;gate 0 0 1;";
        for (int back : new int[] {193, 198, 199, 200}) {
            TurnedRiver x = Due.of(tidal);
            // Up in HOUR 192, the first of its day, down in HOUR back.
            Due.plan(x, "at 192 0 1;at 193 0 0;at " + back + " 0 1;");
            Due.is("back in HOUR " + back, x.ring(1, 9), back < 200 ? back + 1 : NONE);
            Due.is("too heavy", x.ring(1, 10), NONE);
            x.go(1);
            Due.is("an HOUR later", x.ring(1, 9), back);
        }
        TurnedRiver soon = Due.of("lake 0 1 0;tide 9;gate 0 1 1;");
        Due.is("the least", soon.ring(1, 9), 2);
        Due.is("not to leave is not to be there again", Due.of(Bounds.STILL).ring(1, 1), NONE);
        Due.is("to leave is not to be there again", Due.of("lake 99 1 99;").ring(0, 1), NONE);
        TurnedRiver lake = Due.of("lake 0 1 9;tide 0,9;gate 0 1 1;");
        Due.is("down and up", lake.ring(0, 9), 2);
        Due.is("from the sea: up in HOUR 1, down in HOUR 2", lake.ring(1, 9), 3);
    }

    private static void drainedHours() {
        Due.says("Terms 3", "DRAINED: WATER of the lake n HOURS (1 .. 200) from now less what it would be, if a GATE had a WIDTH from now on, whatever THE PLAN tells of it.");
        for (int h : new int[] {0, 1, 198, 199}) {
            TurnedRiver x = Due.of(SHUT);
            Due.plan(x, "at " + h + " 0 1;");
            Due.is("behind HOUR " + h, x.drained(0, 0, h + 1), -100);
            if (h > 0) {
                Due.is("ahead of HOUR " + h, x.drained(0, 0, h), 0);
            }
        }
        TurnedRiver x = Due.of(SHUT);
        Due.is("WIDTH 9 from now on", x.drained(0, 9, 1), 900);
        Due.plan(x, "at 0 0 1;");
        Due.is("less what THE PLAN lets go", x.drained(0, 9, 1), 800);
        Due.is("as THE PLAN tells", x.drained(0, 1, 200), 0);
        TurnedRiver y = Due.of("lake 1 99 9801;pond 0 99 0;gate 0 1 1;gate 1 0 1;");
        Due.plan(y, "at 1 0 0;");
        Due.is("what THE PLAN tells of another is heard", y.drained(1, 9, 5), 0);
        Due.is("the lake by it", y.tried(5, 0, 0), 9801 - 100);
    }

    private static void nearestOfLike() {
        Due.says("Terms 3", "NEAREST: the WIDTH (0 .. 9) with which, so, the lake has WATER nearest to v; of like ones the least.");
        TurnedRiver x = Due.of("lake 0 1 0;tide 100;");
        // Behind an HOUR the lake has 100 by each WIDTH.
        for (int w = 0; w < 9; w++) {
            Due.is("as near to both", x.nearest(0, 100 * w + 50, 1), w);
            Due.is("nearer to the less", x.nearest(0, 100 * w + 49, 1), w);
            Due.is("nearer to the greater", x.nearest(0, 100 * w + 51, 1), w + 1);
            Due.is("at it", x.nearest(0, 100 * w, 1), w);
        }
        Due.is("beyond", x.nearest(0, 901, 1), 9);
        Due.is("all alike", Due.of(Bounds.STILL).nearest(1, 40, 200), 0);
        TurnedRiver y = Due.of(SHUT);
        Due.plan(y, "at 0 0 9;");
        Due.is("whatever THE PLAN tells", y.nearest(0, 9801, 200), 0);
        TurnedRiver late = Due.of("lake 0 1 0;tide 0,100;");
        Due.is("n HOURS, not less", late.nearest(0, 300, 2), 3);
        Due.is("n HOURS, not more", late.nearest(0, 300, 1), 0);
    }

    private static void stoppedHours() {
        Due.says("Terms 3", "STOPPED .. let no LOG go down to the sea for n HOURS (1 .. 100)");
        for (int h : new int[] {0, 1, 98, 99, 100}) {
            TurnedRiver x = Due.of(SHUT);
            Due.plan(x, "at " + h + " 0 1;");
            x.log(0, 100);
            if (h > 0) {
                Due.is("ahead of HOUR " + h, x.stopped(h), 0);
            }
            if (h < 100) {
                Due.is("behind HOUR " + h, x.stopped(h + 1), 1);
            }
            x.clear();
            x.log(0, 101);
            Due.is("too heavy to go", x.stopped(Math.max(1, h)), 0);
        }
        TurnedRiver turned = Due.of("lake 0 1 9;tide 0,999;");
        turned.log(0, 9);
        Due.is("it comes back up, but it was there", turned.stopped(2), 1);
        Due.says("Terms 3", "NONE: one lies there already");
        TurnedRiver there = Due.of("lake 0 1 0;tide 999;");
        there.log(1, 1);
        Due.is("though it would go up", there.stopped(1), NONE);
        there.go(1);
        Due.is("when it went up, it is to be stopped", there.stopped(1), 1);
    }

    private static void stoppedGates() {
        Due.says("Terms 3", "STOPPED: the SET of fewest GATES which, shut from now on (WIDTH 0, whatever THE PLAN tells of them) .. of like ones the least");
        // In HOUR 0 all 500 come to the pond and 55 go on (5, if gate 0 is shut), in HOUR 1 the other 450.
        String text = "lake 900 1 500;pond 50 1 5;gate 0 1 1;gate 1 1 1;";
        int[][] cases = {{0, 1, 1, 0}, {0, 1, 2, 1}, {1, 5, 1, 2}, {1, 6, 1, 1}, {1, 5, 100, 2}, {0, 999, 100, 0}};
        for (int[] c : cases) {
            TurnedRiver x = Due.of(text);
            x.log(c[0], c[1]);
            Due.is("LOG at " + c[0] + " of " + c[1] + ", n " + c[2], x.stopped(c[2]), c[3]);
            Due.plan(x, "at 0 0 1;at 0 1 1;at 1 0 1;at 1 1 1;");
            Due.is("whatever THE PLAN tells", x.stopped(c[2]), c[3]);
        }
        TurnedRiver both = Due.of(text);
        both.log(0, 1);
        both.log(1, 1);
        Due.is("two LOGS by one GATE", both.stopped(2), 2);
        StringBuilder s = new StringBuilder("lake 99 1 9999;");
        for (int i = 0; i < 8; i++) {
            s.append("pond ").append(90 - i).append(" 1 99;");
        }
        TurnedRiver most = Due.of(s.toString());
        most.log(8, 1);
        Due.is("the last of nine gates", most.stopped(1), 256);
    }

    private static void bookByMore() {
        Due.says("Terms 3", "WRONG: the first that is other than TRIED by more than e; NONE.");
        // WATER, entry, e, WRONG.
        int[][] cases = {{100, 100, 0, NONE}, {100, 101, 0, 0}, {100, 99, 0, 0}, {100, 101, 1, NONE}, {100, 99, 1, NONE}, {100, 102, 1, 0},
            {100, 98, 1, 0}, {0, 9999, 9999, NONE}, {0, 10000, 9999, 0}, {0, 9999, 9998, 0}, {9999, 0, 9999, NONE}, {9999, 0, 9998, 0}, {0, 99999, 9999, 0}};
        for (int[] c : cases) {
            TurnedRiver x = Due.of("lake 0 1 " + c[0] + ";gate 0 0 0;");
            x.write(c[1]);
            Due.is("WATER " + c[0] + ", entry " + c[1] + ", e " + c[2], x.judge(c[2]), c[3]);
        }
        TurnedRiver much = Due.of("lake 0 1 9999;gate 0 0 0;rain 99;");
        much.go(1);
        much.write(49);
        Due.is("9999 more than its entry", much.judge(9999), NONE);
        much.tear();
        much.write(48);
        Due.is("10000 more than its entry", much.judge(9999), 0);
    }

    private static void bookEntries() {
        Due.says("Terms 3", "THE BOOK is a row of the lake's WATER (60 at most), entry k behind k HOURS from now (entry 0: now)");
        TurnedRiver x = Due.of("lake 0 1 9;gate 0 0 0;rain 51" + ",51".repeat(23) + ";");
        for (int k = 0; k < 60; k++) {
            x.write(9 + k);
            Due.is("right till " + k, x.judge(0), NONE);
        }
        x.go(1);
        Due.is("from now", x.judge(0), 0);
        Due.is("each is one off", x.judge(1), NONE);
        x.tear();
        for (int k = 0; k < 60; k++) {
            x.write(k < 59 ? 10 + k : 10 + k + 2);
        }
        Due.is("the last of sixty", x.judge(1), 59);
        Due.is("the last of sixty, by no more", x.judge(2), NONE);
    }

    private static void showersDraw() {
        Due.says("Terms 3", "THE SEED (0 at first: each DRAW it becomes it times 1103515245 and 12345, left over by 2 to the 31; the DRAW of n is it / 65536, left over by n)");
        TurnedRiver x = Due.of(Bounds.STILL);
        int[][] want = {{0, 40, 3, 1406932606}, {88, 40, 91, 1449466924}, {33, 40, 124, 1109335178}, {7, 40, 131, 1293799192}};
        for (int[] w : want) {
            Due.is("what came", x.showers(1, 99), w[0]);
            Due.is("lake", x.node(0, 2), w[1]);
            Due.is("pond", x.node(1, 2), w[2]);
            int seed = x.seed(0);
            Due.is("THE SEED", seed, w[3]);
            x.seed(seed);
        }
        Due.says("12 showers", "how much came to NODES but the sea");
        TurnedRiver y = Due.of(Bounds.STILL);
        y.seed(2147483647);
        Due.is("89 come to the sea", y.showers(1, 99), 0);
        Due.is("WATER", y.told(6), 43);
        Due.is("THE SEED", y.seed(288979989), 288979989);
        Due.is("61 come to the lake", y.showers(1, 99), 61);
        Due.is("lake", y.node(0, 2), 101);
        Due.is("THE SEED", y.seed(0), 1751031067);
        y.seed(2147483647);
        y.go(1);
        y.tried(1, 0, 0);
        Due.is("no DRAW but by showers", y.seed(0), 2147483647);
        TurnedRiver one = Due.of(Bounds.STILL);
        Due.is("a DRAW of 1 is 0", one.showers(4, 1), 0);
        Due.is("but it is one", one.seed(0), 1293799192);
    }

    private static void showersBehindRain() {
        Due.says("Terms 3", "n HOURS, in each of them, behind RAIN, a DRAW of m comes to the WATER of a NODE by a DRAW of how many there are (the sea takes it)");
        TurnedRiver x = Due.of("lake 0 1 10;gate 0 0 0;rain 0,0;");
        x.seed(288979989);
        Due.is("61 come to the lake, of two NODES", x.showers(1, 99), 61);
        Due.is("behind RAIN: 0, and 61", x.node(0, 2), 61);
        Due.is("HOUR", x.told(3), 1);
        TurnedRiver y = Due.of("lake 0 1 0;gate 0 1 0;");
        y.seed(288979989);
        y.showers(1, 99);
        Due.is("behind FLOW", y.gate(0, 2), 0);
        y.go(1);
        Due.is("then it flows", y.gate(0, 2), 61);
    }

    private static void imagesKeep() {
        Due.says("Terms 3", "IMAGES 0, 1 keep WATER, WIDTHS, THE HOUR, FLOW of the latest HOUR, GROUND, LOGS, THE SEED.");
        for (int i = 0; i < 2; i++) {
            TurnedRiver x = Due.of(Bounds.SMALL);
            x.seed(9);
            x.log(0, 5);
            x.log(2, 12);
            x.go(2);
            x.width(1, 7);
            String before = Due.all(x);
            x.keep(i);
            x.pour(0, 5);
            x.pour(1, 6);
            x.width(0, 8);
            x.width(1, 8);
            x.showers(30, 50);
            x.log(1, 4);
            x.go(3);
            x.keep(1 - i);
            Due.is("go back", x.goBack(i), 1);
            Due.same("as it was", Due.all(x), before);
            x.clear();
            x.log(1, 9);
            x.goBack(i);
            Due.same("as it was again", Due.all(x), before);
            x.goBack(1 - i);
            Due.is("the other has HOUR 35", x.told(3), 35);
            Due.is("and three LOGS", x.told(4), 3);
        }
    }

    private static void imagesDoNotKeep() {
        Due.says("Terms 3", "IMAGES 0, 1 keep WATER, WIDTHS, THE HOUR, FLOW of the latest HOUR, GROUND, LOGS, THE SEED.");
        TurnedRiver x = Due.of(Bounds.STILL);
        x.keep(0);
        Due.plan(x, "at 1 0 7;");
        x.write(40);
        Due.plan(x, "x");
        Due.feed(x, "abc");
        x.go(5);
        x.goBack(0);
        Due.is("clauses", x.told(1), 1);
        Due.is("bytes", x.told(2), 3);
        Due.is("entries", x.told(5), 1);
        Due.is("fault", x.fault(), 0);
        Due.is("HOUR", x.told(3), 0);
        x.go(2);
        Due.is("THE PLAN is heard again", x.gate(0, 0), 7);
    }

    private static void fiveHundredAndTwelve() {
        Due.says("What it is", "An object is used for at most 512 calls after it has been made");
        TurnedRiver x = Due.of("lake 0 1 40;gate 0 0 1;rain 99" + ",99".repeat(23) + ";");
        // 13 feeds, told and river have been called; the last calls are asked below.
        for (int i = 1; i <= 480; i++) {
            Due.is("HOUR", x.go(200), 200 * i);
        }
        int water = 40 + 49 * 96000;
        Due.is("WATER", x.told(6), water);
        Due.is("LEVEL", x.node(0, 3), water);
        Due.is("WATER 200 on", x.tried(200, 0, 0), water + 49 * 200);
        x.width(0, 9);
        Due.is("FLOW of all", x.tried(1, 1, 0), water);
        Due.is("DRAINED", x.drained(0, 0, 1), -water);
        Due.is("what it was", x.pour(0, 0), water);
        TurnedRiver high = Due.of("lake 0 1 0;tide 999" + ",999".repeat(23) + ";gate 0 9 99;");
        high.log(1, 999);
        for (int i = 0; i < 480; i++) {
            high.go(200);
        }
        Due.is("TURNS", high.wood(0, 4), 95999);
        Due.is("HOME", high.wood(0, 5), 48000);
        Due.is("TOLL", high.wood(0, 3), 0);
        Due.is("GROUND", high.gate(0, 3), 99999999);
    }
}

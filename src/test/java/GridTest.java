import java.util.function.ToIntBiFunction;

/**
 * Every call with every pairing of numbers on, beside and far from its bounds, in states of several kinds: the class
 * against the document told a second time. So the order of the refusals is seen for all of them, and that no call throws.
 */
public final class GridTest {
    private static final int LEAST = Integer.MIN_VALUE, MOST = Integer.MAX_VALUE;
    private static final int[] PLACES = {LEAST, -1, 0, 1, 2, 3, 8, 9, 10, 11, MOST};
    private static final int[] WHATS = {LEAST, -1, 0, 1, 2, 3, 4, 5, 6, 7, MOST};
    private static final int[] HOURS = {LEAST, -1, 0, 1, 2, 99, 100, 101, 199, 200, 201, MOST};
    private static final int[] WEIGHTS = {LEAST, -1, 0, 1, 12, 998, 999, 1000, MOST};
    private static final int[] WIDTHS = {LEAST, -1, 0, 1, 9, 10, MOST};
    private static final int[] AMOUNTS = {LEAST, -1, 0, 1, 9998, 9999, 10000, 99998, 99999, 100000, MOST};
    private static final int[] DEEDS = {LEAST, -3, -2, -1, 0, 1, 2, 8, 99, 100, MOST};
    /** An object is used for at most 512 calls: what is asked goes on with a new one in time. */
    private static final int CALLS = 300;
    private static final int STATES = 6;

    private final int state;
    private TurnedRiver x;
    private RiverModel m;
    private int calls;

    private GridTest(int state) {
        this.state = state;
        begin();
    }

    public static void main(String[] args) {
        for (int state = 0; state < STATES; state++) {
            GridTest t = new GridTest(state);
            t.asked();
            t.tried();
            t.changed();
        }
        Due.end();
    }

    private void begin() {
        x = new TurnedRiver();
        m = new RiverModel();
        calls = 0;
        switch (state) {
            case 0: break;
            case 1: both("seed", x.seed(MOST), m.seed(MOST)); both("keep", x.keep(0), m.keep(0)); break;
            case 2: river("lake 0 1 9;tide 0,9;"); live(1); break;
            case 3: river(Bounds.SMALL); plan("at 3 0 2;at 9 1 0;at 60 1 9;"); live(2); break;
            case 4: river("lake 9 9 99;" + "pond 5 2 50;".repeat(8) + "tide 9,99,0,50;rain 0,99,20;"); plan("at 1 8 9;at 50 0 0;"); live(9); break;
            default: river("lake 0 99 0;pond 0 1 9999;pond 999 99 0;gate 0 9 99;gate 1 0 9;gate 2 9 9;rain 99;"); fill(); break;
        }
    }

    private void both(String call, int got, int want) {
        calls++;
        Due.is("state " + state + ": " + call, got, want);
    }

    private void feed(String text) {
        for (int i = 0; i < text.length(); i += 8) {
            int n = Math.min(8, text.length() - i);
            long bytes = 0;
            for (char c : text.substring(i, i + n).toCharArray()) {
                bytes = bytes << 8 | c;
            }
            both("feed", x.feed(n, bytes), m.feed(n, bytes));
        }
    }

    private void river(String text) {
        feed(text);
        both("river", x.river(), m.river());
    }

    private void plan(String text) {
        feed(text);
        both("plan", x.plan(), m.plan());
    }

    private void live(int sea) {
        both("log", x.log(0, 5), m.log(0, 5));
        both("log", x.log(sea, 9), m.log(sea, 9));
        both("write", x.write(7), m.write(7));
        both("go", x.go(2), m.go(2));
        both("keep", x.keep(1), m.keep(1));
        both("go", x.go(1), m.go(1));
    }

    /** All that can be FULL is. */
    private void fill() {
        for (int i = 0; i < 12; i++) {
            both("log", x.log(i % 4, 1 + 90 * i), m.log(i % 4, 1 + 90 * i));
        }
        for (int i = 0; i < 60; i++) {
            both("write", x.write(i), m.write(i));
        }
        feed(" ".repeat(400));
        both("keep", x.keep(0), m.keep(0));
        both("keep", x.keep(1), m.keep(1));
    }

    private void ask(String call, ToIntBiFunction<TurnedRiver, RiverModel> got, ToIntBiFunction<TurnedRiver, RiverModel> want) {
        if (calls >= CALLS) {
            begin();
        }
        both(call, got.applyAsInt(x, m), want.applyAsInt(x, m));
    }

    /** A call that may change something: on an object of its own, and what it left is asked behind it. */
    private void change(String call, ToIntBiFunction<TurnedRiver, RiverModel> got, ToIntBiFunction<TurnedRiver, RiverModel> want) {
        begin();
        both(call, got.applyAsInt(x, m), want.applyAsInt(x, m));
        for (int what = 0; what <= 6; what++) {
            both(call + ", told " + what, x.told(what), m.told(what));
        }
        for (int k = 0; k < m.told(0); k++) {
            for (int what = 0; what <= 4; what++) {
                both(call + ", node", x.node(k, what), m.node(k, what));
                both(call + ", gate", x.gate(k, what), m.gate(k, what));
            }
        }
        for (int l = 0; l < m.told(4); l++) {
            for (int what = 0; what <= 6; what++) {
                both(call + ", wood", x.wood(l, what), m.wood(l, what));
            }
        }
        both(call + ", seed", x.seed(0), m.seed(0));
    }

    private void asked() {
        for (int k : PLACES) {
            for (int w : WHATS) {
                ask("told " + w, (x, m) -> x.told(w), (x, m) -> m.told(w));
                ask("node " + k + " " + w, (x, m) -> x.node(k, w), (x, m) -> m.node(k, w));
                ask("gate " + k + " " + w, (x, m) -> x.gate(k, w), (x, m) -> m.gate(k, w));
                ask("wood " + k + " " + w, (x, m) -> x.wood(k, w), (x, m) -> m.wood(k, w));
                ask("wood 12 " + w, (x, m) -> x.wood(12, w), (x, m) -> m.wood(12, w));
                ask("slack " + k + " " + w, (x, m) -> x.slack(k, w), (x, m) -> m.slack(k, w));
            }
            for (int w : WEIGHTS) {
                ask("ring " + k + " " + w, (x, m) -> x.ring(k, w), (x, m) -> m.ring(k, w));
            }
        }
        for (int e : AMOUNTS) {
            ask("judge " + e, (x, m) -> x.judge(e), (x, m) -> m.judge(e));
        }
        for (int n : HOURS) {
            ask("stopped " + n, (x, m) -> x.stopped(n), (x, m) -> m.stopped(n));
        }
    }

    private void tried() {
        for (int k : PLACES) {
            for (int n : HOURS) {
                for (int w : WIDTHS) {
                    ask("drained " + k + " " + w + " " + n, (x, m) -> x.drained(k, w, n), (x, m) -> m.drained(k, w, n));
                }
                for (int w : new int[] {LEAST, -1, 0, 1, 2, 3, MOST}) {
                    ask("tried " + n + " " + w + " " + k, (x, m) -> x.tried(n, w, k), (x, m) -> m.tried(n, w, k));
                }
                for (int v : new int[] {-1, 0, 99, 99999, 100000}) {
                    ask("nearest " + k + " " + v + " " + n, (x, m) -> x.nearest(k, v, n), (x, m) -> m.nearest(k, v, n));
                }
                for (int h : HOURS) {
                    for (int w : new int[] {0, 1, 9, 999, 1000}) {
                        ask("sent " + k + " " + n + " " + h + " " + w, (x, m) -> x.sent(k, n, h, w), (x, m) -> m.sent(k, n, h, w));
                    }
                }
            }
            for (int b : PLACES) {
                for (int r : new int[] {LEAST, -1, 0, 12, 999, 1000, MOST}) {
                    for (int i : DEEDS) {
                        ask("boat " + k + " " + b + " " + r + " " + i, (x, m) -> x.boat(k, b, r, i), (x, m) -> m.boat(k, b, r, i));
                    }
                }
            }
        }
    }

    private void changed() {
        for (int k : PLACES) {
            for (int w : WIDTHS) {
                change("width " + k + " " + w, (x, m) -> x.width(k, w), (x, m) -> m.width(k, w));
            }
            for (int v : AMOUNTS) {
                change("pour " + k + " " + v, (x, m) -> x.pour(k, v), (x, m) -> m.pour(k, v));
            }
            for (int w : WEIGHTS) {
                change("log " + k + " " + w, (x, m) -> x.log(k, w), (x, m) -> m.log(k, w));
            }
            change("keep " + k, (x, m) -> x.keep(k), (x, m) -> m.keep(k));
            change("goBack " + k, (x, m) -> x.goBack(k), (x, m) -> m.goBack(k));
        }
        for (int n : HOURS) {
            change("go " + n, (x, m) -> x.go(n), (x, m) -> m.go(n));
            for (int w : new int[] {LEAST, -1, 0, 1, 98, 99, 100, MOST}) {
                change("showers " + n + " " + w, (x, m) -> x.showers(n, w), (x, m) -> m.showers(n, w));
            }
        }
        for (int v : AMOUNTS) {
            change("write " + v, (x, m) -> x.write(v), (x, m) -> m.write(v));
            change("seed " + v, (x, m) -> x.seed(v), (x, m) -> m.seed(v));
        }
        for (int n : WHATS) {
            change("feed " + n, (x, m) -> x.feed(n, -1L), (x, m) -> m.feed(n, -1L));
        }
        for (int n : new int[] {8, 9}) {
            change("feed " + n, (x, m) -> x.feed(n, -1L), (x, m) -> m.feed(n, -1L));
        }
        change("river", (x, m) -> x.river(), (x, m) -> m.river());
        change("plan", (x, m) -> x.plan(), (x, m) -> m.plan());
        change("fault", (x, m) -> x.fault(), (x, m) -> m.fault());
        change("clear", (x, m) -> x.clear(), (x, m) -> m.clear());
        change("tear", (x, m) -> x.tear(), (x, m) -> m.tear());
    }
}

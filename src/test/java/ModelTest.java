import java.util.Random;

/** Long runs of calls by draws (the same ones each time): the class against the document told a second time. */
public final class ModelTest {
    private static final int RUNS = 240;
    /** An object is used for at most 512 calls; what is drawn once asks no more than 130 of them. */
    private static final int CALLS = 512 - 130;
    private static final String[] NAMES = {
        "feed", "river", "plan", "fault", "told", "node", "gate", "go", "width", "pour", "showers", "log", "wood", "clear",
        "tried", "slack", "boat", "sent", "ring", "drained", "nearest", "stopped", "write", "tear", "judge", "seed", "keep", "goBack"};

    private final Random random;
    private final TurnedRiver x = new TurnedRiver();
    private final RiverModel m = new RiverModel();
    private final int run;
    private int calls;

    private ModelTest(int run) {
        this.run = run;
        random = new Random(run * 7919L + 17);
    }

    public static void main(String[] args) {
        for (int run = 0; run < RUNS; run++) {
            ModelTest t = new ModelTest(run);
            t.tell(t.riverText(), true);
            for (int i = 0; i < CALLS && t.calls < CALLS; i++) {
                t.call();
            }
            Due.holds("no more than 512 calls", t.calls <= 512);
        }
        for (int run = 0; run < 3000; run++) {
            ModelTest t = new ModelTest(-run - 1);
            t.tell(t.riverText(), true);
            t.tell(t.spoilt(t.riverText()), true);
            t.tell(t.spoilt(t.planText()), false);
        }
        for (int run = 0; run < 8; run++) {
            new ModelTest(1000 + run).flood();
        }
        Due.end();
    }

    /** As much water as the calls can bring: the sea stands high all day and every gate is wide. */
    private void flood() {
        StringBuilder s = new StringBuilder("lake 0 1 0;");
        for (int k = 0; k < run % 8; k++) {
            s.append("pond ").append(run % 2 * 7 * k).append(' ').append(1 + k % 2).append(" 0;");
        }
        s.append("tide 999").append(",999".repeat(23)).append(";rain 99").append(",99".repeat(23)).append(';');
        tell(s.toString(), true);
        for (int k = 0; k < m.told(0) - 1; k++) {
            due("width", x.width(k, 9), m.width(k, 9));
        }
        due("log", x.log(0, 999), m.log(0, 999));
        for (int i = 0; i < 290; i++) {
            due("go", x.go(200), m.go(200));
        }
        for (int k = 0; k < m.told(0); k++) {
            for (int what = 0; what <= 4; what++) {
                due("node " + k + " " + what, x.node(k, what), m.node(k, what));
                due("gate " + k + " " + what, x.gate(k, what), m.gate(k, what));
            }
            due("tried", x.tried(200, 0, k), m.tried(200, 0, k));
            due("tried", x.tried(199, 1, k), m.tried(199, 1, k));
            due("drained", x.drained(k, 0, 7), m.drained(k, 0, 7));
            due("nearest", x.nearest(k, 99999, 7), m.nearest(k, 99999, 7));
            due("boat", x.boat(k, 0, 999, -1), m.boat(k, 0, 999, -1));
        }
        for (int what = 0; what <= 6; what++) {
            due("told " + what, x.told(what), m.told(what));
            due("wood " + what, x.wood(0, what), m.wood(0, what));
        }
        Due.holds("no more than 512 calls", calls <= 512);
    }

    private void due(String call, int got, int want) {
        calls++;
        Due.is("run " + run + ": " + call, got, want);
    }

    /** Mostly within 0 .. most, at times at its edges and beyond them. */
    private int near(int most) {
        switch (random.nextInt(24)) {
            case 0: return -1;
            case 1: return most + 1;
            case 2: return most;
            case 3: return 0;
            case 4: return random.nextInt(8) == 0 ? Integer.MAX_VALUE : most;
            case 5: return random.nextInt(8) == 0 ? Integer.MIN_VALUE : 1;
            default: return random.nextInt(most + 1);
        }
    }

    private int nodeNumber() {
        return random.nextInt(12) == 0 ? near(10) : random.nextInt(Math.max(1, m.told(0)));
    }

    private int gateNumber() {
        return random.nextInt(12) == 0 ? near(9) : random.nextInt(Math.max(1, m.told(0) - 1));
    }

    private int weight() {
        return random.nextInt(3) == 0 ? near(999) : 1 + random.nextInt(60);
    }

    private String blanks() {
        return " ".repeat(random.nextInt(6) == 0 ? random.nextInt(3) : 0);
    }

    private String row(String word, int most) {
        StringBuilder s = new StringBuilder(word).append(' ');
        int n = random.nextInt(5) == 0 ? 24 : 1 + random.nextInt(12);
        for (int i = 0; i < n; i++) {
            s.append(i == 0 ? "" : ",").append(blanks()).append(random.nextInt(most + 1)).append(blanks());
        }
        return s.append(';').toString();
    }

    private String basin(String word, int top) {
        int area = random.nextInt(3) == 0 ? 1 + random.nextInt(99) : 1 + random.nextInt(6);
        int water = random.nextInt(4) == 0 ? random.nextInt(10000) : random.nextInt(400);
        return word + blanks() + " " + random.nextInt(top) + " " + area + blanks() + " " + water + blanks() + ";" + blanks();
    }

    private String riverText() {
        int ponds = random.nextInt(9);
        int top = random.nextBoolean() ? 1000 : 60;
        StringBuilder s = new StringBuilder(blanks()).append(basin("lake", top));
        String rain = random.nextInt(3) == 0 ? "" : row("rain", 99);
        String tide = random.nextInt(4) == 0 ? "" : row("tide", random.nextBoolean() ? 999 : 120);
        int rainAt = random.nextInt(ponds + 1);
        for (int k = 0; k < ponds; k++) {
            s.append(k == rainAt ? rain : "").append(basin("pond", top));
        }
        s.append(rainAt == ponds ? rain : "");
        int first = random.nextInt(ponds + 1);
        for (int k = first; k <= ponds && random.nextInt(3) != 0; k++) {
            s.append("gate").append(blanks()).append(k).append(' ').append(random.nextInt(10)).append(' ').append(random.nextInt(100)).append(';');
        }
        if (s.length() + tide.length() <= 400) {
            s.append(tide);
        }
        return s.toString();
    }

    private String planText() {
        StringBuilder s = new StringBuilder(blanks());
        int n = random.nextInt(5) == 0 ? random.nextInt(34) : random.nextInt(12);
        int hour = m.told(3);
        for (int i = 0; i < n; i++) {
            hour += random.nextInt(3) == 0 ? random.nextInt(20) : 0;
            int gate = random.nextInt(60) == 0 ? near(9) : random.nextInt(Math.max(1, m.told(0) - 1));
            s.append("at").append(blanks()).append(Math.min(hour, 999)).append(' ').append(gate).append(' ').append(random.nextInt(10)).append(';');
        }
        return s.toString();
    }

    /** One to three faults, by draws: a byte more, less or other, a clause or a number again, an end too soon. */
    private String spoilt(String text) {
        StringBuilder s = new StringBuilder(text);
        for (int i = random.nextInt(3); i >= 0 && s.length() > 0; i--) {
            int at = random.nextInt(s.length());
            String other = " ;,0123456789aegiklnoprtdA\n\u00ff";
            char c = other.charAt(random.nextInt(other.length()));
            switch (random.nextInt(7)) {
                case 0: s.insert(at, c); break;
                case 1: s.deleteCharAt(at); break;
                case 2: s.setCharAt(at, c); break;
                case 3: s.setLength(at); break;
                case 4: s.append(new String[] {"lake 1 1 1;", "pond 1 1 1;", "rain 1;", "tide 1;", "gate 0 1 1;", "at 0 0 0;", "at 999 0 9;"}[random.nextInt(7)]); break;
                case 5: s.insert(at, random.nextInt(20000)); break;
                default: s.insert(at, ", " + random.nextInt(120) + " "); break;
            }
        }
        return s.toString();
    }

    private void tell(String text, boolean river) {
        for (int i = 0; i < text.length(); ) {
            int n = Math.min(4 + random.nextInt(5), text.length() - i);
            long bytes = random.nextLong();
            for (int j = 0; j < n; j++) {
                bytes = bytes << 8 | text.charAt(i + j) & 255;
            }
            due("feed of " + text, x.feed(n, bytes), m.feed(n, bytes));
            i += n;
        }
        if (river) {
            due("river() of " + text, x.river(), m.river());
        } else {
            due("plan() of " + text, x.plan(), m.plan());
        }
        due("fault() of " + text, x.fault(), m.fault());
        due("told(0)", x.told(0), m.told(0));
        due("told(1)", x.told(1), m.told(1));
        due("told(2)", x.told(2), m.told(2));
    }

    private void call() {
        String name = NAMES[random.nextInt(NAMES.length)];
        int k = nodeNumber();
        int g = gateNumber();
        int hours = near(random.nextInt(4) == 0 ? 200 : 30);
        int what = near(6);
        switch (name) {
            case "feed": {
                int n = near(8);
                long b = random.nextLong();
                due(name, x.feed(n, b), m.feed(n, b));
                break;
            }
            case "river": if (random.nextInt(6) == 0) { tell(random.nextInt(3) == 0 ? spoilt(riverText()) : riverText(), true); } break;
            case "plan": {
                if (m.told(2) > 0) { due("river()", x.river(), m.river()); }
                if (m.told(0) == 0) { tell(riverText(), true); break; }
                tell(random.nextInt(3) == 0 ? spoilt(planText()) : planText(), false);
                break;
            }
            case "fault": due(name, x.fault(), m.fault()); break;
            case "told": due(name + what, x.told(what), m.told(what)); break;
            case "node": for (int w = -1; w <= 5; w++) { due(name + k + "," + w, x.node(k, w), m.node(k, w)); } break;
            case "gate": for (int w = -1; w <= 5; w++) { due(name + g + "," + w, x.gate(g, w), m.gate(g, w)); } break;
            case "go": due(name + hours, x.go(hours), m.go(hours)); break;
            case "width": { int w = near(9); due(name + g + "," + w, x.width(g, w), m.width(g, w)); break; }
            case "pour": { int v = near(9999); due(name + k + "," + v, x.pour(k, v), m.pour(k, v)); break; }
            case "showers": { int n = near(100); int d = near(99); due(name + n + "," + d, x.showers(n, d), m.showers(n, d)); break; }
            case "log": { int w = weight(); due(name + k + "," + w, x.log(k, w), m.log(k, w)); break; }
            case "wood": for (int w = -1, l = near(12); w <= 7; w++) { due(name + l + "," + w, x.wood(l, w), m.wood(l, w)); } break;
            case "clear": if (random.nextInt(4) == 0) { due(name, x.clear(), m.clear()); } break;
            case "tried": { int w = near(2); due(name + hours + "," + w + "," + k, x.tried(hours, w, k), m.tried(hours, w, k)); break; }
            case "slack": { int w = near(1); due(name + g + "," + w, x.slack(g, w), m.slack(g, w)); break; }
            case "boat": {
                int b = nodeNumber();
                int r = near(999) / (1 + random.nextInt(20));
                for (int i = -3; i <= 12; i++) { due(name + k + "," + b + "," + r + "," + i, x.boat(k, b, r, i), m.boat(k, b, r, i)); }
                break;
            }
            case "sent": {
                int n = near(100);
                int h = random.nextInt(3) == 0 ? near(100) : random.nextInt(Math.max(0, Math.min(n, 100)) + 1);
                int w = weight();
                due(name + k + "," + n + "," + h + "," + w, x.sent(k, n, h, w), m.sent(k, n, h, w));
                break;
            }
            case "ring": { int w = weight(); due(name + k + "," + w, x.ring(k, w), m.ring(k, w)); break; }
            case "drained": { int w = near(9); due(name + g + "," + w + "," + hours, x.drained(g, w, hours), m.drained(g, w, hours)); break; }
            case "nearest": { int v = near(random.nextInt(3) == 0 ? 99999 : 500); due(name + g + "," + v + "," + hours, x.nearest(g, v, hours), m.nearest(g, v, hours)); break; }
            case "stopped": { int n = near(random.nextInt(3) == 0 ? 100 : 12); due(name + n, x.stopped(n), m.stopped(n)); break; }
            case "write": {
                int v = random.nextInt(3) == 0 ? near(99999) : Math.max(0, m.tried(Math.max(1, m.told(5)), 0, 0));
                due(name + v, x.write(v), m.write(v));
                break;
            }
            case "tear": if (random.nextInt(3) == 0) { due(name, x.tear(), m.tear()); } break;
            case "judge": { int e = near(9999) / (1 + random.nextInt(100)); due(name + e, x.judge(e), m.judge(e)); break; }
            case "seed": { int v = random.nextInt(); due(name + v, x.seed(v), m.seed(v)); break; }
            case "keep": { int i = near(1); due(name + i, x.keep(i), m.keep(i)); break; }
            default: { int i = near(1); due(name + i, x.goBack(i), m.goBack(i)); break; }
        }
    }
}

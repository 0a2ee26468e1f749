import java.util.ArrayList;
import java.util.Arrays;
import java.util.HashMap;
import java.util.List;
import java.util.Map;
import java.util.regex.Matcher;
import java.util.regex.Pattern;

/**
 * The document told a second time, without care for room or speed: every set is tried, every way of the boat is weighed.
 * What the class answers is compared with what this answers.
 */
final class RiverModel {
    static final int NONE = -1, UNKNOWN = -100000001, OUTSIDE = -100000002, NOT = -100000003, FULL = -100000004;

    /** A text's FAULT; it never leaves this file. */
    private static final class Fault extends Exception {
        private static final long serialVersionUID = 1;
        final int number;
        final int at;

        Fault(int number, int at) {
            this.number = number;
            this.at = at;
        }
    }

    private static final class Token {
        final String text;
        final int at;

        Token(String text, int at) {
            this.text = text;
            this.at = at;
        }

        boolean isNumber() {
            return text.matches("[0-9]+");
        }
    }

    private static final class Basin {
        int floor;
        int area;
        long water;
    }

    private static final class Log {
        int node;
        int weight;
        int origin;
        int toll;
        int turns;
        int home;
        int way;
    }

    private static final class World {
        long hour;
        long seed;
        List<Basin> basins = new ArrayList<>();
        List<Integer> widths = new ArrayList<>();
        List<Long> flows = new ArrayList<>();
        List<Long> down = new ArrayList<>();
        List<Long> up = new ArrayList<>();
        List<Log> logs = new ArrayList<>();

        World copy() {
            World w = new World();
            w.hour = hour;
            w.seed = seed;
            for (Basin b : basins) {
                Basin c = new Basin();
                c.floor = b.floor;
                c.area = b.area;
                c.water = b.water;
                w.basins.add(c);
            }
            w.widths.addAll(widths);
            w.flows.addAll(flows);
            w.down.addAll(down);
            w.up.addAll(up);
            for (Log l : logs) {
                Log c = new Log();
                c.node = l.node;
                c.weight = l.weight;
                c.origin = l.origin;
                c.toll = l.toll;
                c.turns = l.turns;
                c.home = l.home;
                c.way = l.way;
                w.logs.add(c);
            }
            return w;
        }

        int nodes() {
            return basins.isEmpty() ? 0 : basins.size() + 1;
        }
    }

    private String text = "";
    private int fault = NONE;
    private World now = new World();
    private List<Integer> tolls = new ArrayList<>();
    private int[] rain = new int[24];
    private int[] tide = new int[24];
    private List<int[]> plan = new ArrayList<>();
    private List<Integer> book = new ArrayList<>();
    private final Map<Integer, World> images = new HashMap<>();

    // ---- texts

    int feed(int n, long bytes) {
        if (n < 1 || n > 8) {
            return OUTSIDE;
        }
        if (text.length() + n > 400) {
            return FULL;
        }
        StringBuilder s = new StringBuilder();
        for (int i = 0; i < n; i++) {
            s.insert(0, (char) (bytes & 255));
            bytes >>>= 8;
        }
        text += s;
        return text.length();
    }

    private List<Token> tokens() {
        List<Token> all = new ArrayList<>();
        Matcher m = Pattern.compile("[a-z]+|[0-9]+|[^ ]", Pattern.DOTALL).matcher(text);
        while (m.find()) {
            all.add(new Token(m.group(), m.start()));
        }
        all.add(new Token("", text.length()));
        return all;
    }

    private static int number(Token t, int low, int high) throws Fault {
        if (!t.isNumber()) {
            throw new Fault(1, t.at);
        }
        if (t.text.length() > 4 || Integer.parseInt(t.text) < low || Integer.parseInt(t.text) > high) {
            throw new Fault(2, t.at);
        }
        return Integer.parseInt(t.text);
    }

    private static void sign(Token t, String s) throws Fault {
        if (!t.text.equals(s)) {
            throw new Fault(1, t.at);
        }
    }

    int river() {
        List<Token> all = tokens();
        World world = new World();
        world.seed = now.seed;
        int[] newRain = new int[24];
        int[] newTide = new int[24];
        Arrays.fill(newRain, 50);
        Map<Integer, int[]> gates = new HashMap<>();
        try {
            readRiver(all, world, newRain, newTide, gates);
        } catch (Fault f) {
            text = "";
            fault = f.at;
            return -10 - f.number;
        }
        text = "";
        fault = NONE;
        now = world;
        rain = newRain;
        tide = newTide;
        tolls = new ArrayList<>();
        for (int k = 0; k < world.basins.size(); k++) {
            int[] told = gates.getOrDefault(k, new int[] {5, 1});
            world.widths.add(told[0]);
            tolls.add(told[1]);
            world.flows.add(0L);
            world.down.add(0L);
            world.up.add(0L);
        }
        plan = new ArrayList<>();
        book = new ArrayList<>();
        images.clear();
        return world.nodes();
    }

    private static void readRiver(List<Token> all, World world, int[] rain, int[] tide, Map<Integer, int[]> gates) throws Fault {
        boolean rained = false;
        boolean tided = false;
        int i = 0;
        while (!all.get(i).text.isEmpty()) {
            Token t = all.get(i);
            boolean first = world.basins.isEmpty();
            String w = t.text;
            if (first && !w.equals("lake")) {
                throw new Fault(1, t.at);
            }
            if (w.equals("pond") && !gates.isEmpty()) {
                throw new Fault(1, t.at);
            }
            boolean again = w.equals("lake") && !first || w.equals("pond") && world.basins.size() == 9
                || w.equals("rain") && rained || w.equals("tide") && tided;
            if (again) {
                throw new Fault(3, t.at);
            }
            if (w.equals("lake") || w.equals("pond")) {
                Basin b = new Basin();
                b.floor = number(all.get(i + 1), 0, 999);
                b.area = number(all.get(i + 2), 1, 99);
                b.water = number(all.get(i + 3), 0, 9999);
                sign(all.get(i + 4), ";");
                world.basins.add(b);
                i += 5;
            } else if (w.equals("rain")) {
                rained = true;
                i = readRow(all, i + 1, rain, 99);
            } else if (w.equals("tide")) {
                tided = true;
                i = readRow(all, i + 1, tide, 999);
            } else if (w.equals("gate")) {
                int k = number(all.get(i + 1), 0, world.basins.size() - 1);
                if (gates.containsKey(k)) {
                    throw new Fault(3, all.get(i + 1).at);
                }
                gates.put(k, new int[] {number(all.get(i + 2), 0, 9), number(all.get(i + 3), 0, 99)});
                sign(all.get(i + 4), ";");
                i += 5;
            } else {
                throw new Fault(1, t.at);
            }
        }
    }

    private static int readRow(List<Token> all, int i, int[] row, int most) throws Fault {
        int n = 0;
        while (true) {
            int g = number(all.get(i), 0, most);
            if (n == 24) {
                throw new Fault(4, all.get(i).at);
            }
            row[n++] = g;
            if (all.get(i + 1).text.equals(";")) {
                return i + 2;
            }
            sign(all.get(i + 1), ",");
            i += 2;
        }
    }

    int plan() {
        if (now.nodes() == 0) {
            return NOT;
        }
        List<Token> all = tokens();
        text = "";
        List<int[]> read = new ArrayList<>();
        try {
            for (int i = 0; !all.get(i).text.isEmpty(); i += 5) {
                sign(all.get(i), "at");
                if (read.size() == 30) {
                    throw new Fault(3, all.get(i).at);
                }
                int h = number(all.get(i + 1), 0, 999);
                if (!read.isEmpty() && h < read.get(read.size() - 1)[0]) {
                    throw new Fault(4, all.get(i + 1).at);
                }
                int k = number(all.get(i + 2), 0, now.nodes() - 2);
                int w = number(all.get(i + 3), 0, 9);
                sign(all.get(i + 4), ";");
                read.add(new int[] {h, k, w});
            }
        } catch (Fault f) {
            fault = f.at;
            return -10 - f.number;
        }
        fault = NONE;
        plan = read;
        return plan.size();
    }

    int fault() {
        return fault;
    }

    int told(int what) {
        long water = 0;
        for (Basin b : now.basins) {
            water += b.water;
        }
        long[] all = {now.nodes(), plan.size(), text.length(), now.hour, now.logs.size(), book.size(), water};
        return what < 0 || what > 6 ? OUTSIDE : (int) all[what];
    }

    private boolean isNode(int k) {
        return k >= 0 && k < now.nodes();
    }

    private boolean isGate(int k) {
        return k >= 0 && k < now.nodes() - 1;
    }

    private long level(World w, int k) {
        if (k == w.basins.size()) {
            return tide[(int) (w.hour % 24)];
        }
        Basin b = w.basins.get(k);
        return b.floor + b.water / b.area;
    }

    int node(int k, int what) {
        if (!isNode(k)) {
            return UNKNOWN;
        }
        if (what < 0 || what > 4) {
            return OUTSIDE;
        }
        if (what == 3) {
            return (int) level(now, k);
        }
        if (what == 4) {
            int set = 0;
            for (int l = 0; l < now.logs.size(); l++) {
                set += now.logs.get(l).node == k ? 1 << l : 0;
            }
            return set;
        }
        if (k == now.basins.size()) {
            return 0;
        }
        Basin b = now.basins.get(k);
        return what == 0 ? b.floor : what == 1 ? b.area : (int) b.water;
    }

    int gate(int k, int what) {
        if (!isGate(k)) {
            return UNKNOWN;
        }
        if (what < 0 || what > 4) {
            return OUTSIDE;
        }
        long[] all = {now.widths.get(k), tolls.get(k), now.flows.get(k), Math.min(99999999, now.down.get(k)), Math.min(99999999, now.up.get(k))};
        return (int) all[what];
    }

    // ---- hours

    /** One HOUR; what stands in forced has its WIDTH whatever THE PLAN tells. */
    private void hour(World w, Map<Integer, Integer> forced) {
        for (int[] order : plan) {
            if (order[0] == w.hour) {
                w.widths.set(order[1], order[2]);
            }
        }
        for (Map.Entry<Integer, Integer> f : forced.entrySet()) {
            w.widths.set(f.getKey(), f.getValue());
        }
        int sea = w.basins.size();
        long[] level = new long[sea + 1];
        for (int k = 0; k <= sea; k++) {
            level[k] = level(w, k);
        }
        for (int k = 0; k < sea; k++) {
            long flow = (level[k] - level[k + 1]) * w.widths.get(k);
            if (flow > w.basins.get(k).water) {
                flow = w.basins.get(k).water;
            }
            if (k + 1 < sea && -flow > w.basins.get(k + 1).water) {
                flow = -w.basins.get(k + 1).water;
            }
            w.basins.get(k).water -= flow;
            if (k + 1 < sea) {
                w.basins.get(k + 1).water += flow;
            }
            w.flows.set(k, flow);
            w.down.set(k, w.down.get(k) + Math.max(0, flow));
            w.up.set(k, w.up.get(k) + Math.max(0, -flow));
        }
        for (Log l : w.logs) {
            drift(w, l);
        }
        Basin lake = w.basins.get(0);
        lake.water = Math.max(0, lake.water + rain[(int) (w.hour % 24)] - 50);
        w.hour++;
    }

    private void drift(World w, Log l) {
        long down = l.node < w.basins.size() ? w.flows.get(l.node) : 0;
        long up = l.node > 0 ? -w.flows.get(l.node - 1) : 0;
        boolean canDown = down >= l.weight;
        boolean canUp = up >= l.weight;
        if (!canDown && !canUp) {
            return;
        }
        int way = canDown && canUp ? (up > down ? -1 : 1) : canDown ? 1 : -1;
        l.toll += way == 1 ? tolls.get(l.node) : -tolls.get(l.node - 1);
        l.node += way;
        if (l.way != 0 && l.way != way) {
            l.turns++;
        }
        l.way = way;
        if (l.node == l.origin) {
            l.home++;
        }
    }

    int go(int n) {
        if (n < 1 || n > 200) {
            return OUTSIDE;
        }
        if (now.nodes() == 0) {
            return NOT;
        }
        for (int i = 0; i < n; i++) {
            hour(now, Map.of());
        }
        return (int) now.hour;
    }

    int width(int k, int w) {
        if (!isGate(k)) {
            return UNKNOWN;
        }
        return w < 0 || w > 9 ? OUTSIDE : now.widths.set(k, w);
    }

    int pour(int k, int v) {
        if (k < 0 || k >= now.basins.size()) {
            return UNKNOWN;
        }
        if (v < 0 || v > 9999) {
            return OUTSIDE;
        }
        int was = (int) now.basins.get(k).water;
        now.basins.get(k).water = v;
        return was;
    }

    private int draw(int n) {
        now.seed = (now.seed * 1103515245L + 12345L) % 2147483648L;
        return (int) (now.seed / 65536 % n);
    }

    int showers(int n, int m) {
        if (n < 1 || n > 100 || m < 1 || m > 99) {
            return OUTSIDE;
        }
        if (now.nodes() == 0) {
            return NOT;
        }
        int came = 0;
        for (int i = 0; i < n; i++) {
            hour(now, Map.of());
            int drops = draw(m);
            int k = draw(now.nodes());
            if (k < now.basins.size()) {
                now.basins.get(k).water += drops;
                came += drops;
            }
        }
        return came;
    }

    // ---- logs

    int log(int k, int weight) {
        if (!isNode(k)) {
            return UNKNOWN;
        }
        if (weight < 1 || weight > 999) {
            return OUTSIDE;
        }
        if (now.logs.size() == 12) {
            return FULL;
        }
        now.logs.add(newLog(k, weight));
        return now.logs.size() - 1;
    }

    private static Log newLog(int k, int weight) {
        Log l = new Log();
        l.node = k;
        l.origin = k;
        l.weight = weight;
        return l;
    }

    int wood(int l, int what) {
        if (l < 0 || l >= now.logs.size()) {
            return UNKNOWN;
        }
        Log g = now.logs.get(l);
        int[] all = {g.node, g.weight, g.origin, g.toll, g.turns, g.home, g.way};
        return what < 0 || what > 6 ? OUTSIDE : all[what];
    }

    int clear() {
        int were = now.logs.size();
        now.logs.clear();
        return were;
    }

    // ---- tried

    /** How all is behind each of n HOURS from now; entry 0: now. */
    private List<World> future(int n, Map<Integer, Integer> forced) {
        List<World> all = new ArrayList<>();
        all.add(now);
        for (int i = 0; i < n; i++) {
            World next = all.get(i).copy();
            hour(next, forced);
            all.add(next);
        }
        return all;
    }

    int tried(int n, int what, int k) {
        if (what == 1 ? !isGate(k) : !isNode(k)) {
            return UNKNOWN;
        }
        if (n < 1 || n > 200 || what < 0 || what > 2) {
            return OUTSIDE;
        }
        World then = future(n, Map.of()).get(n);
        if (what == 1) {
            return (int) (long) then.flows.get(k);
        }
        if (what == 2) {
            return (int) level(then, k);
        }
        return k == then.basins.size() ? 0 : (int) then.basins.get(k).water;
    }

    int slack(int k, int what) {
        if (!isGate(k)) {
            return UNKNOWN;
        }
        if (what < 0 || what > 1) {
            return OUTSIDE;
        }
        StringBuilder s = new StringBuilder();
        List<World> all = future(200, Map.of());
        for (int i = 1; i <= 200; i++) {
            s.append(all.get(i).flows.get(k) == 0 ? '0' : '1');
        }
        Matcher m = Pattern.compile("0+").matcher(s);
        if (!m.find()) {
            return NONE;
        }
        return what == 0 ? m.start() : m.end() - m.start();
    }

    /** By every hour and node the least of (toll, deeds) with which the boat is there: deeds are told in letters. */
    int boat(int a, int b, int r, int i) {
        if (!isNode(a) || !isNode(b)) {
            return UNKNOWN;
        }
        if (r < 0 || r > 999) {
            return OUTSIDE;
        }
        List<World> all = future(100, Map.of());
        Map<Integer, Object[]> best = new HashMap<>();
        best.put(a, new Object[] {0, ""});
        for (int h = 0; h < 100 && !best.containsKey(b); h++) {
            World w = all.get(h + 1);
            Map<Integer, Object[]> next = new HashMap<>();
            for (Map.Entry<Integer, Object[]> e : best.entrySet()) {
                int k = e.getKey();
                int toll = (Integer) e.getValue()[0];
                String deeds = (String) e.getValue()[1];
                better(next, k, toll, deeds + "0");
                if (isGate(k) && w.widths.get(k) != 0 && -w.flows.get(k) <= r) {
                    better(next, k + 1, toll + tolls.get(k), deeds + "1");
                }
                if (isGate(k - 1) && w.widths.get(k - 1) != 0 && w.flows.get(k - 1) <= r) {
                    better(next, k - 1, toll - tolls.get(k - 1), deeds + "2");
                }
            }
            best = next;
        }
        Object[] way = best.get(b);
        if (way == null) {
            return i == -2 ? NOT : NONE;
        }
        String deeds = (String) way[1];
        if (i == NONE) {
            return deeds.length();
        }
        if (i == -2) {
            return (Integer) way[0];
        }
        return i < 0 || i >= deeds.length() ? NONE : deeds.charAt(i) - '0';
    }

    private static void better(Map<Integer, Object[]> next, int k, int toll, String deeds) {
        Object[] old = next.get(k);
        int than = old == null ? 1 : Integer.compare((Integer) old[0], toll);
        if (than > 0 || than == 0 && deeds.compareTo((String) old[1]) < 0) {
            next.put(k, new Object[] {toll, deeds});
        }
    }

    int sent(int q, int n, int h, int weight) {
        if (!isNode(q)) {
            return UNKNOWN;
        }
        if (weight < 1 || weight > 999 || n < 0 || n > 100 || h < 0 || h > n) {
            return OUTSIDE;
        }
        int set = 0;
        List<World> all = future(n, Map.of());
        for (int k = 0; k < now.nodes(); k++) {
            Log l = newLog(k, weight);
            for (int i = h; i < n; i++) {
                drift(all.get(i + 1), l);
            }
            set += l.node == q ? 1 << k : 0;
        }
        return set;
    }

    int ring(int k, int weight) {
        if (!isNode(k)) {
            return UNKNOWN;
        }
        if (weight < 1 || weight > 999) {
            return OUTSIDE;
        }
        Log l = newLog(k, weight);
        List<World> all = future(200, Map.of());
        for (int i = 1; i <= 200; i++) {
            drift(all.get(i), l);
            if (l.home == 1) {
                return i;
            }
        }
        return NONE;
    }

    private long lakeBehind(int n, Map<Integer, Integer> forced) {
        return future(n, forced).get(n).basins.get(0).water;
    }

    int drained(int k, int w, int n) {
        if (!isGate(k)) {
            return UNKNOWN;
        }
        if (w < 0 || w > 9 || n < 1 || n > 200) {
            return OUTSIDE;
        }
        return (int) (lakeBehind(n, Map.of()) - lakeBehind(n, Map.of(k, w)));
    }

    int nearest(int k, int v, int n) {
        if (!isGate(k)) {
            return UNKNOWN;
        }
        if (v < 0 || v > 99999 || n < 1 || n > 200) {
            return OUTSIDE;
        }
        int best = 9;
        for (int w = 9; w >= 0; w--) {
            if (Math.abs(lakeBehind(n, Map.of(k, w)) - v) <= Math.abs(lakeBehind(n, Map.of(k, best)) - v)) {
                best = w;
            }
        }
        return best;
    }

    int stopped(int n) {
        if (n < 1 || n > 100) {
            return OUTSIDE;
        }
        if (now.nodes() == 0) {
            return NOT;
        }
        int sea = now.basins.size();
        if (node(sea, 4) != 0) {
            return NONE;
        }
        int best = NONE;
        for (int set = 0; set < 1 << sea; set++) {
            if (best != NONE && Integer.bitCount(set) >= Integer.bitCount(best)) {
                continue;
            }
            Map<Integer, Integer> forced = new HashMap<>();
            for (int k = 0; k < sea; k++) {
                if ((set >> k & 1) == 1) {
                    forced.put(k, 0);
                }
            }
            boolean dry = true;
            for (World w : future(n, forced)) {
                for (Log l : w.logs) {
                    dry &= l.node != sea;
                }
            }
            if (dry) {
                best = set;
            }
        }
        return best;
    }

    // ---- books, images

    int write(int v) {
        if (v < 0 || v > 99999) {
            return OUTSIDE;
        }
        if (book.size() == 60) {
            return FULL;
        }
        book.add(v);
        return book.size();
    }

    int tear() {
        int had = book.size();
        book.clear();
        return had;
    }

    int judge(int e) {
        if (e < 0 || e > 9999) {
            return OUTSIDE;
        }
        if (now.nodes() == 0) {
            return NOT;
        }
        List<World> all = future(60, Map.of());
        for (int i = 0; i < book.size(); i++) {
            if (Math.abs(all.get(i).basins.get(0).water - book.get(i)) > e) {
                return i;
            }
        }
        return NONE;
    }

    int seed(int v) {
        if (v < 0) {
            return OUTSIDE;
        }
        int was = (int) now.seed;
        now.seed = v;
        return was;
    }

    int keep(int i) {
        if (i != 0 && i != 1) {
            return UNKNOWN;
        }
        images.put(i, now.copy());
        return 1;
    }

    int goBack(int i) {
        if (i != 0 && i != 1) {
            return UNKNOWN;
        }
        if (!images.containsKey(i)) {
            return NOT;
        }
        now = images.get(i).copy();
        return 1;
    }
}

/**
 * A river that flows down and up between a lake and the sea, hour by hour in whole parts of water.
 * Words in capitals are those of the document. All rows are made once, with the object: a call makes none.
 */
public final class TurnedRiver {
    public static final int NONE = -1, UNKNOWN = -100000001, OUTSIDE = -100000002, NOT = -100000003, FULL = -100000004;

    private static final int MOST_BYTES = 400;
    private static final int MOST_NODES = 10;
    private static final int MOST_GATES = 9;
    private static final int MOST_WIDTH = 9;
    private static final int DAY = 24;
    private static final int MOST_ORDERS = 30;
    private static final int MOST_LOGS = 12;
    private static final int MOST_WEIGHT = 999;
    private static final int MOST_STRENGTH = 999;
    private static final int MOST_ENTRIES = 60;
    private static final int MOST_ENTRY = 99999;
    private static final int MOST_GROUND = 99999999;
    private static final int MOST_HOURS = 200;
    private static final int MOST_SHORT_HOURS = 100;
    private static final int IMAGES = 2;

    private final Reader reader = new Reader();
    private Course course = new Course();
    private Course nextCourse = new Course();
    private Orders orders = new Orders();
    private Orders nextOrders = new Orders();
    private final State now = new State();
    private final State trial = new State();
    private final State[] images = new State[IMAGES];
    private final boolean[] kept = new boolean[IMAGES];
    private final Voyage voyage = new Voyage();
    private final int[] places = new int[MOST_NODES];
    private final int[] book = new int[MOST_ENTRIES];
    private int entries;
    private int faultByte = NONE;

    public TurnedRiver() {
        for (int i = 0; i < IMAGES; i++) {
            images[i] = new State();
        }
    }

    // ---- texts

    public int feed(int n, long bytes) {
        if (n < 1 || n > 8) {
            return OUTSIDE;
        }
        return reader.takeBytes(n, bytes) ? reader.length : FULL;
    }

    public int river() {
        reader.readCourse(nextCourse);
        faultByte = reader.faultByte();
        if (reader.found != 0) {
            return -10 - reader.found;
        }
        Course old = course;
        course = nextCourse;
        nextCourse = old;
        orders.count = 0;
        now.begin(course);
        entries = 0;
        for (int i = 0; i < IMAGES; i++) {
            kept[i] = false;
        }
        return course.nodes;
    }

    public int plan() {
        if (course.nodes == 0) {
            return NOT;
        }
        reader.readOrders(nextOrders, course.nodes - 1);
        faultByte = reader.faultByte();
        if (reader.found != 0) {
            return -10 - reader.found;
        }
        Orders old = orders;
        orders = nextOrders;
        nextOrders = old;
        return orders.count;
    }

    public int fault() {
        return faultByte;
    }

    public int told(int what) {
        switch (what) {
            case 0: return course.nodes;
            case 1: return orders.count;
            case 2: return reader.length;
            case 3: return now.hour;
            case 4: return now.wood.count;
            case 5: return entries;
            case 6: return now.allWater(course);
            default: return OUTSIDE;
        }
    }

    public int node(int k, int what) {
        if (!course.isNode(k)) {
            return UNKNOWN;
        }
        switch (what) {
            case 0: return course.floor[k];
            case 1: return course.area[k];
            case 2: return now.water[k];
            case 3: return now.levelOf(course, k);
            case 4: return now.wood.lyingIn(k);
            default: return OUTSIDE;
        }
    }

    public int gate(int k, int what) {
        if (!course.isGate(k)) {
            return UNKNOWN;
        }
        switch (what) {
            case 0: return now.width[k];
            case 1: return course.toll[k];
            case 2: return now.flow[k];
            case 3: return now.groundDown[k];
            case 4: return now.groundUp[k];
            default: return OUTSIDE;
        }
    }

    // ---- hours

    public int go(int n) {
        if (n < 1 || n > MOST_HOURS) {
            return OUTSIDE;
        }
        if (course.nodes == 0) {
            return NOT;
        }
        for (int i = 0; i < n; i++) {
            now.passHour(course, orders);
        }
        return now.hour;
    }

    public int width(int k, int w) {
        if (!course.isGate(k)) {
            return UNKNOWN;
        }
        if (w < 0 || w > MOST_WIDTH) {
            return OUTSIDE;
        }
        int was = now.width[k];
        now.width[k] = w;
        return was;
    }

    public int pour(int k, int v) {
        if (!course.isNode(k) || course.isSea(k)) {
            return UNKNOWN;
        }
        if (v < 0 || v > 9999) {
            return OUTSIDE;
        }
        int was = now.water[k];
        now.water[k] = v;
        return was;
    }

    public int showers(int n, int m) {
        if (n < 1 || n > MOST_SHORT_HOURS || m < 1 || m > 99) {
            return OUTSIDE;
        }
        if (course.nodes == 0) {
            return NOT;
        }
        int came = 0;
        for (int i = 0; i < n; i++) {
            now.passHour(course, orders);
            came += now.takeShower(course, m);
        }
        return came;
    }

    // ---- logs

    public int log(int k, int weight) {
        if (!course.isNode(k)) {
            return UNKNOWN;
        }
        if (!isWeight(weight)) {
            return OUTSIDE;
        }
        return now.wood.setIn(k, weight);
    }

    public int wood(int l, int what) {
        Wood wood = now.wood;
        if (l < 0 || l >= wood.count) {
            return UNKNOWN;
        }
        switch (what) {
            case 0: return wood.node[l];
            case 1: return wood.weight[l];
            case 2: return wood.origin[l];
            case 3: return wood.toll[l];
            case 4: return wood.turns[l];
            case 5: return wood.home[l];
            case 6: return wood.way[l];
            default: return OUTSIDE;
        }
    }

    public int clear() {
        int were = now.wood.count;
        now.wood.count = 0;
        return were;
    }

    // ---- tried

    public int tried(int n, int what, int k) {
        boolean there = what == 1 ? course.isGate(k) : course.isNode(k);
        if (!there) {
            return UNKNOWN;
        }
        if (n < 1 || n > MOST_HOURS || what < 0 || what > 2) {
            return OUTSIDE;
        }
        trial.becomeAs(now);
        passTrialHours(n);
        if (what == 0) {
            return trial.water[k];
        }
        return what == 1 ? trial.flow[k] : trial.levelOf(course, k);
    }

    public int slack(int k, int what) {
        if (!course.isGate(k)) {
            return UNKNOWN;
        }
        if (what < 0 || what > 1) {
            return OUTSIDE;
        }
        trial.becomeAs(now);
        int first = NONE;
        for (int i = 0; i < MOST_HOURS; i++) {
            trial.passHour(course, orders);
            boolean still = trial.flow[k] == 0;
            if (still && first == NONE) {
                first = i;
            }
            if (!still && first != NONE) {
                return what == 0 ? first : i - first;
            }
        }
        return what == 0 || first == NONE ? first : MOST_HOURS - first;
    }

    public int boat(int a, int b, int r, int i) {
        if (!course.isNode(a) || !course.isNode(b)) {
            return UNKNOWN;
        }
        if (r < 0 || r > MOST_STRENGTH) {
            return OUTSIDE;
        }
        int soonest = findSoonest(a, b, r);
        if (i == NONE) {
            return soonest;
        }
        if (i == -2) {
            return soonest == NONE ? NOT : course.tollBetween(a, b);
        }
        if (i < 0 || i >= soonest) {
            return NONE;
        }
        return voyage.deedIn(i, a, b);
    }

    public int sent(int q, int n, int h, int weight) {
        if (!course.isNode(q)) {
            return UNKNOWN;
        }
        if (n < 0 || n > MOST_SHORT_HOURS || h < 0 || h > n || !isWeight(weight)) {
            return OUTSIDE;
        }
        for (int k = 0; k < course.nodes; k++) {
            places[k] = k;
        }
        trial.becomeAs(now);
        for (int i = 0; i < n; i++) {
            trial.passHour(course, orders);
            if (i >= h) {
                driftPlaces(weight);
            }
        }
        int set = 0;
        for (int k = 0; k < course.nodes; k++) {
            if (places[k] == q) {
                set |= 1 << k;
            }
        }
        return set;
    }

    public int ring(int k, int weight) {
        if (!course.isNode(k)) {
            return UNKNOWN;
        }
        if (!isWeight(weight)) {
            return OUTSIDE;
        }
        trial.becomeAs(now);
        int place = k;
        for (int i = 1; i <= MOST_HOURS; i++) {
            trial.passHour(course, orders);
            int way = trial.wayFrom(course, place, weight);
            place += way;
            if (way != 0 && place == k) {
                return i;
            }
        }
        return NONE;
    }

    public int drained(int k, int w, int n) {
        if (!course.isGate(k)) {
            return UNKNOWN;
        }
        if (w < 0 || w > MOST_WIDTH || n < 1 || n > MOST_HOURS) {
            return OUTSIDE;
        }
        trial.becomeAs(now);
        passTrialHours(n);
        int lake = trial.water[0];
        return lake - lakeWith(k, w, n);
    }

    public int nearest(int k, int v, int n) {
        if (!course.isGate(k)) {
            return UNKNOWN;
        }
        if (v < 0 || v > MOST_ENTRY || n < 1 || n > MOST_HOURS) {
            return OUTSIDE;
        }
        int best = 0;
        int least = Math.abs(lakeWith(k, 0, n) - v);
        for (int w = 1; w <= MOST_WIDTH; w++) {
            int off = Math.abs(lakeWith(k, w, n) - v);
            if (off < least) {
                best = w;
                least = off;
            }
        }
        return best;
    }

    public int stopped(int n) {
        if (n < 1 || n > MOST_SHORT_HOURS) {
            return OUTSIDE;
        }
        if (course.nodes == 0) {
            return NOT;
        }
        int sea = course.nodes - 1;
        if (now.wood.lyingIn(sea) != 0) {
            return NONE;
        }
        trial.becomeAs(now);
        if (keepsOffSea(n)) {
            return 0;
        }
        // No set of two is ever needed: the last GATE, shut, stops every LOG by itself.
        for (int k = 0; k < sea; k++) {
            trial.becomeAs(now);
            trial.holdGate(k, 0);
            if (keepsOffSea(n)) {
                return 1 << k;
            }
        }
        return NONE;
    }

    // ---- books, images

    public int write(int v) {
        if (v < 0 || v > MOST_ENTRY) {
            return OUTSIDE;
        }
        if (entries >= MOST_ENTRIES) {
            return FULL;
        }
        book[entries] = v;
        entries++;
        return entries;
    }

    public int tear() {
        int had = entries;
        entries = 0;
        return had;
    }

    public int judge(int e) {
        if (e < 0 || e > 9999) {
            return OUTSIDE;
        }
        if (course.nodes == 0) {
            return NOT;
        }
        trial.becomeAs(now);
        for (int i = 0; i < entries; i++) {
            if (Math.abs(book[i] - trial.water[0]) > e) {
                return i;
            }
            trial.passHour(course, orders);
        }
        return NONE;
    }

    public int seed(int v) {
        if (v < 0) {
            return OUTSIDE;
        }
        int was = now.seed;
        now.seed = v;
        return was;
    }

    public int keep(int i) {
        if (i < 0 || i >= IMAGES) {
            return UNKNOWN;
        }
        images[i].becomeAs(now);
        kept[i] = true;
        return 1;
    }

    public int goBack(int i) {
        if (i < 0 || i >= IMAGES) {
            return UNKNOWN;
        }
        if (!kept[i]) {
            return NOT;
        }
        now.becomeAs(images[i]);
        return 1;
    }

    // ---- what several calls use

    private static boolean isWeight(int weight) {
        return weight >= 1 && weight <= MOST_WEIGHT;
    }

    private void passTrialHours(int n) {
        for (int i = 0; i < n; i++) {
            trial.passHour(course, orders);
        }
    }

    private int lakeWith(int k, int w, int n) {
        trial.becomeAs(now);
        trial.holdGate(k, w);
        passTrialHours(n);
        return trial.water[0];
    }

    private boolean keepsOffSea(int n) {
        int sea = course.nodes - 1;
        for (int i = 0; i < n; i++) {
            trial.passHour(course, orders);
            if (trial.wood.lyingIn(sea) != 0) {
                return false;
            }
        }
        return true;
    }

    private void driftPlaces(int weight) {
        for (int k = 0; k < course.nodes; k++) {
            places[k] += trial.wayFrom(course, places[k], weight);
        }
    }

    private int findSoonest(int a, int b, int r) {
        voyage.begin(a);
        trial.becomeAs(now);
        for (int i = 0; i < MOST_SHORT_HOURS && !voyage.isAt(b); i++) {
            trial.passHour(course, orders);
            voyage.addHour(course, trial, r);
        }
        return voyage.isAt(b) ? voyage.hours : NONE;
    }

    /** THE RIVER as it was told: what it begins with, and what never changes. */
    private static final class Course {
        int nodes;
        final int[] floor = new int[MOST_NODES];
        final int[] area = new int[MOST_NODES];
        final int[] firstWater = new int[MOST_NODES];
        final int[] firstWidth = new int[MOST_GATES];
        final int[] toll = new int[MOST_GATES];
        final int[] rain = new int[DAY];
        final int[] tide = new int[DAY];

        void forgetAll() {
            nodes = 0;
            for (int k = 0; k < MOST_NODES; k++) {
                floor[k] = 0;
                area[k] = 0;
                firstWater[k] = 0;
            }
            for (int k = 0; k < MOST_GATES; k++) {
                firstWidth[k] = 5;
                toll[k] = 1;
            }
            for (int h = 0; h < DAY; h++) {
                rain[h] = 50;
                tide[h] = 0;
            }
        }

        /** One place is left free for the sea, which no clause tells. */
        boolean hasRoom() {
            return nodes < MOST_NODES - 1;
        }

        void addBasin(int f, int a, int v) {
            if (hasRoom()) {
                floor[nodes] = f;
                area[nodes] = a;
                firstWater[nodes] = v;
                nodes++;
            }
        }

        boolean isNode(int k) {
            return k >= 0 && k < nodes;
        }

        boolean isGate(int k) {
            return k >= 0 && k < nodes - 1;
        }

        boolean isSea(int k) {
            return k == nodes - 1;
        }

        int tideAt(int hour) {
            return tide[Math.floorMod(hour, DAY)];
        }

        int rainAt(int hour) {
            return rain[Math.floorMod(hour, DAY)] - 50;
        }

        /** What is paid down is given back up, so every way from a to b has this one TOLL. */
        int tollBetween(int a, int b) {
            int sum = 0;
            for (int k = Math.min(a, b); k < Math.max(a, b); k++) {
                sum += toll[k];
            }
            return a < b ? sum : -sum;
        }
    }

    /** THE PLAN: its clauses in order. */
    private static final class Orders {
        int count;
        final int[] hour = new int[MOST_ORDERS];
        final int[] gate = new int[MOST_ORDERS];
        final int[] width = new int[MOST_ORDERS];

        void addOrder(int h, int k, int w) {
            if (count < MOST_ORDERS) {
                hour[count] = h;
                gate[count] = k;
                width[count] = w;
                count++;
            }
        }
    }

    /** THE TEXT, and what reads it. The first FAULT stays: behind it nothing is read and no other is found. */
    private static final class Reader {
        private static final int CANNOT_STAND = 1, OUT_OF_BOUNDS = 2, TOLD_ALREADY = 3, OUT_OF_ROW = 4;
        private static final int END = 0, WORD = 1, NUMBER = 2, SIGN = 3;
        /** Out of all bounds of the document, as a NUMBER of five figures or more is. */
        private static final int TOO_LONG = 10000;

        private final byte[] bytes = new byte[MOST_BYTES];
        int length;
        int found;
        private int foundAt;
        private int kind;
        private int start;
        private int behind;
        private int value;
        private boolean rainTold;
        private boolean tideTold;
        private int gatesTold;

        boolean takeBytes(int n, long more) {
            if (n > MOST_BYTES - length) {
                return false;
            }
            for (int i = n - 1; i >= 0; i--) {
                bytes[length] = (byte) (more >> (8 * i));
                length++;
            }
            return true;
        }

        int faultByte() {
            return found == 0 ? NONE : foundAt;
        }

        void readCourse(Course course) {
            begin();
            course.forgetAll();
            for (int i = 0; i <= MOST_BYTES && found == 0; i++) {
                step();
                if (kind == END) {
                    break;
                }
                readClause(course);
            }
            if (course.nodes > 0) {
                course.nodes++;
            }
            length = 0;
        }

        void readOrders(Orders orders, int gates) {
            begin();
            orders.count = 0;
            int latest = 0;
            for (int i = 0; i <= MOST_ORDERS && found == 0; i++) {
                step();
                if (kind == END) {
                    break;
                }
                if (!isWord("at")) {
                    find(CANNOT_STAND);
                }
                if (i == MOST_ORDERS) {
                    find(TOLD_ALREADY);
                }
                latest = readOrder(orders, gates, latest);
            }
            length = 0;
        }

        private void begin() {
            found = 0;
            foundAt = 0;
            behind = 0;
            rainTold = false;
            tideTold = false;
            gatesTold = 0;
        }

        private void readClause(Course course) {
            if (isWord("lake")) {
                if (course.nodes > 0) {
                    find(TOLD_ALREADY);
                }
                readBasin(course);
            } else if (course.nodes == 0) {
                find(CANNOT_STAND);
            } else if (isWord("pond")) {
                checkPond(course);
                readBasin(course);
            } else if (isWord("rain")) {
                readRowOnce(course.rain, 99, rainTold);
                rainTold = true;
            } else if (isWord("tide")) {
                readRowOnce(course.tide, 999, tideTold);
                tideTold = true;
            } else if (isWord("gate")) {
                readGate(course);
            } else {
                find(CANNOT_STAND);
            }
        }

        private void checkPond(Course course) {
            if (gatesTold != 0) {
                find(CANNOT_STAND);
            }
            if (!course.hasRoom()) {
                find(TOLD_ALREADY);
            }
        }

        private void readBasin(Course course) {
            int f = takeNumber(0, 999);
            int a = takeNumber(1, 99);
            int v = takeNumber(0, 9999);
            takeSign(';');
            if (found == 0) {
                course.addBasin(f, a, v);
            }
        }

        private void readGate(Course course) {
            int k = takeNumber(0, course.nodes - 1);
            if ((gatesTold >> k & 1) != 0) {
                find(TOLD_ALREADY);
            }
            int w = takeNumber(0, MOST_WIDTH);
            int t = takeNumber(0, 99);
            takeSign(';');
            if (found == 0 && k >= 0 && k < MOST_GATES) {
                gatesTold |= 1 << k;
                course.firstWidth[k] = w;
                course.toll[k] = t;
            }
        }

        private void readRowOnce(int[] row, int most, boolean told) {
            if (told) {
                find(TOLD_ALREADY);
            }
            for (int i = 0; i <= row.length && found == 0; i++) {
                int g = takeNumber(0, most);
                if (i < row.length) {
                    row[i] = g;
                } else {
                    find(OUT_OF_ROW);
                }
                step();
                if (isSign(';')) {
                    return;
                }
                if (!isSign(',')) {
                    find(CANNOT_STAND);
                }
            }
        }

        private int readOrder(Orders orders, int gates, int latest) {
            int h = takeNumber(0, 999);
            if (h < latest) {
                find(OUT_OF_ROW);
            }
            int k = takeNumber(0, gates - 1);
            int w = takeNumber(0, MOST_WIDTH);
            takeSign(';');
            if (found == 0) {
                orders.addOrder(h, k, w);
            }
            return h;
        }

        private void find(int number) {
            if (found == 0) {
                found = number;
                foundAt = start;
            }
        }

        private int takeNumber(int low, int high) {
            step();
            if (kind != NUMBER) {
                find(CANNOT_STAND);
            } else if (value < low || value > high) {
                find(OUT_OF_BOUNDS);
            }
            return value;
        }

        private void takeSign(char sign) {
            step();
            if (!isSign(sign)) {
                find(CANNOT_STAND);
            }
        }

        private void step() {
            if (found != 0) {
                return;
            }
            start = behind;
            while (start < length && bytes[start] == ' ') {
                start++;
            }
            behind = start;
            if (start >= length) {
                kind = END;
            } else if (isLetter(start)) {
                kind = WORD;
                while (behind < length && isLetter(behind)) {
                    behind++;
                }
            } else if (isFigure(start)) {
                kind = NUMBER;
                value = 0;
                while (behind < length && isFigure(behind)) {
                    value = behind - start < 4 ? value * 10 + bytes[behind] - '0' : TOO_LONG;
                    behind++;
                }
            } else {
                kind = SIGN;
                behind++;
            }
        }

        private boolean isLetter(int at) {
            return at >= 0 && at < length && bytes[at] >= 'a' && bytes[at] <= 'z';
        }

        private boolean isFigure(int at) {
            return at >= 0 && at < length && bytes[at] >= '0' && bytes[at] <= '9';
        }

        private boolean isSign(char sign) {
            return kind == SIGN && start < length && bytes[start] == sign;
        }

        private boolean isWord(String word) {
            if (kind != WORD || behind - start != word.length()) {
                return false;
            }
            for (int i = 0; i < word.length(); i++) {
                if (bytes[start + i] != word.charAt(i)) {
                    return false;
                }
            }
            return true;
        }
    }

    /** The LOGS: a row for each thing that is told of them. */
    private static final class Wood {
        int count;
        final int[] node = new int[MOST_LOGS];
        final int[] weight = new int[MOST_LOGS];
        final int[] origin = new int[MOST_LOGS];
        final int[] toll = new int[MOST_LOGS];
        final int[] turns = new int[MOST_LOGS];
        final int[] home = new int[MOST_LOGS];
        final int[] way = new int[MOST_LOGS];

        int setIn(int k, int heavy) {
            if (count >= MOST_LOGS) {
                return FULL;
            }
            int l = count;
            node[l] = k;
            weight[l] = heavy;
            origin[l] = k;
            toll[l] = 0;
            turns[l] = 0;
            home[l] = 0;
            way[l] = 0;
            count++;
            return l;
        }

        int lyingIn(int k) {
            int set = 0;
            for (int l = 0; l < count; l++) {
                if (node[l] == k) {
                    set |= 1 << l;
                }
            }
            return set;
        }

        void move(int l, int toward, int paid) {
            node[l] += toward;
            toll[l] += toward * paid;
            if (way[l] == -toward) {
                turns[l]++;
            }
            way[l] = toward;
            if (node[l] == origin[l]) {
                home[l]++;
            }
        }

        void copyAll(Wood other) {
            count = other.count;
            copyRow(other.node, node);
            copyRow(other.weight, weight);
            copyRow(other.origin, origin);
            copyRow(other.toll, toll);
            copyRow(other.turns, turns);
            copyRow(other.home, home);
            copyRow(other.way, way);
        }
    }

    /** How all is in an HOUR: what is so, what is TRIED, and each IMAGE. */
    private static final class State {
        int hour;
        int seed;
        /** The SET of GATES of which THE PLAN is not heard. */
        private int held;
        final int[] water = new int[MOST_NODES];
        private final int[] level = new int[MOST_NODES];
        final int[] width = new int[MOST_GATES];
        final int[] flow = new int[MOST_GATES];
        final int[] groundDown = new int[MOST_GATES];
        final int[] groundUp = new int[MOST_GATES];
        final Wood wood = new Wood();

        /** THE SEED goes on from river to river. */
        void begin(Course course) {
            hour = 0;
            wood.count = 0;
            copyRow(course.firstWater, water);
            copyRow(course.firstWidth, width);
            for (int k = 0; k < MOST_GATES; k++) {
                flow[k] = 0;
                groundDown[k] = 0;
                groundUp[k] = 0;
            }
        }

        void becomeAs(State other) {
            hour = other.hour;
            seed = other.seed;
            held = other.held;
            copyRow(other.water, water);
            copyRow(other.width, width);
            copyRow(other.flow, flow);
            copyRow(other.groundDown, groundDown);
            copyRow(other.groundUp, groundUp);
            wood.copyAll(other.wood);
        }

        void holdGate(int k, int w) {
            held |= 1 << k;
            width[k] = w;
        }

        int levelOf(Course course, int k) {
            int area = course.area[k];
            return course.isSea(k) || area < 1 ? course.tideAt(hour) : course.floor[k] + water[k] / area;
        }

        int allWater(Course course) {
            int sum = 0;
            for (int k = 0; k < course.nodes - 1; k++) {
                sum += water[k];
            }
            return sum;
        }

        void passHour(Course course, Orders orders) {
            obey(orders);
            for (int k = 0; k < course.nodes; k++) {
                level[k] = levelOf(course, k);
            }
            for (int k = 0; k < course.nodes - 1; k++) {
                letFlow(course, k);
            }
            for (int l = 0; l < wood.count; l++) {
                letGo(course, l);
            }
            water[0] = Math.max(0, water[0] + course.rainAt(hour));
            hour++;
        }

        private void obey(Orders orders) {
            for (int i = 0; i < orders.count; i++) {
                int k = orders.gate[i];
                if (orders.hour[i] == hour && (held >> k & 1) == 0) {
                    width[k] = orders.width[i];
                }
            }
        }

        private void letFlow(Course course, int k) {
            // FALL times WIDTH can pass what an int holds, though what flows in the end cannot.
            long full = (long) (level[k] - level[k + 1]) * width[k];
            boolean toSea = course.isSea(k + 1);
            int down = (int) Math.min(Math.max(full, 0L), water[k]);
            long pull = Math.max(-full, 0L);
            int up = (int) (toSea ? pull : Math.min(pull, water[k + 1]));
            flow[k] = down - up;
            water[k] -= flow[k];
            if (!toSea) {
                water[k + 1] += flow[k];
            }
            groundDown[k] = Math.min(MOST_GROUND, groundDown[k] + down);
            groundUp[k] = Math.min(MOST_GROUND, groundUp[k] + up);
        }

        private void letGo(Course course, int l) {
            int k = wood.node[l];
            int way = wayFrom(course, k, wood.weight[l]);
            if (way > 0) {
                wood.move(l, way, course.toll[k]);
            } else if (way < 0) {
                wood.move(l, way, course.toll[k - 1]);
            }
        }

        /** The way that something goes by FLOW of the latest HOUR: 1 down, -1 up, 0 none. */
        int wayFrom(Course course, int k, int weight) {
            int down = course.isGate(k) ? flow[k] : 0;
            int up = course.isGate(k - 1) ? -flow[k - 1] : 0;
            if (down >= weight && down >= up) {
                return 1;
            }
            return up >= weight ? -1 : 0;
        }

        int takeShower(Course course, int m) {
            int drops = draw(m);
            int k = draw(course.nodes);
            if (course.isSea(k)) {
                return 0;
            }
            water[k] += drops;
            return drops;
        }

        private int draw(int n) {
            seed = (int) (seed * 1103515245L + 12345L & 0x7fffffffL);
            return n < 1 ? 0 : (seed / 65536) % n;
        }
    }

    /** The ways of THE BOAT: SETS of NODES, one an HOUR. */
    private static final class Voyage {
        int hours;
        private int reached;
        private final int[] downFrom = new int[MOST_SHORT_HOURS];
        private final int[] upFrom = new int[MOST_SHORT_HOURS];

        void begin(int a) {
            hours = 0;
            reached = 1 << a;
        }

        boolean isAt(int b) {
            return (reached >> b & 1) != 0;
        }

        void addHour(Course course, State state, int r) {
            if (hours >= MOST_SHORT_HOURS) {
                return;
            }
            int downs = 0;
            int ups = 0;
            for (int k = 0; k < course.nodes - 1; k++) {
                boolean open = state.width[k] != 0;
                if (open && -state.flow[k] <= r) {
                    downs |= 1 << k;
                }
                if (open && state.flow[k] <= r) {
                    ups |= 1 << (k + 1);
                }
            }
            downFrom[hours] = downs;
            upFrom[hours] = ups;
            reached |= (reached & downs) << 1 | (reached & ups) >> 1;
            hours++;
        }

        /** What the first of the SOONEST ways does in HOUR i. */
        int deedIn(int i, int a, int b) {
            int place = a;
            int deed = 0;
            for (int h = 0; h <= i && h < hours; h++) {
                int goal = timelyBehind(h, b);
                if ((goal >> place & 1) != 0) {
                    deed = 0;
                } else if ((downFrom[h] >> place & goal >> (place + 1) & 1) != 0) {
                    deed = 1;
                    place++;
                } else {
                    deed = 2;
                    place--;
                }
            }
            return deed;
        }

        /** The NODES from which, behind HOUR h, NODE b is still reached at the end. */
        private int timelyBehind(int h, int b) {
            int goal = 1 << b;
            for (int j = hours - 1; j > h; j--) {
                goal |= downFrom[j] & goal >> 1 | upFrom[j] & goal << 1;
            }
            return goal;
        }
    }

    private static void copyRow(int[] from, int[] to) {
        System.arraycopy(from, 0, to, 0, Math.min(from.length, to.length));
    }
}

/**
 * A desk for colour functions of networks: points with weights and kinds, lines between them,
 * the partitions of their weight, and shelves for networks, functions and rows.
 */
public final class ColorFunctions {
    public static final int BAD = -1, NOT = -2, FULL = -3, STATE = -5;
    public static final long VOID = Long.MIN_VALUE;

    private static final int NOTHING_THERE = -11, OTHER_SORT = -12, OUTSIDE = -13, SIZE_BELOW = -14;
    private static final int FAULT_BASE = -100, ACT_BASE = -200, JUDGE_BASE = 100;
    private static final int MOST_POINTS = 6, MOST_WEIGHT = 6, KINDS = 5, ACTS = 3, COLOURS = 10;
    private static final int SHELVES = 4, MOST_PLACES = 40, MOST_STEPS = 8, TROUBLES = 3;
    private static final int SETS = 1 << MOST_POINTS;
    private static final int POWER = 0, COUNTED = 1, ELEMENTARY = 2;
    private static final int EMPTY = 0, NETWORK = 1, FUNCTION = 2, ROW = 3;
    /** Of each KIND the one that it is under; -1: none. */
    private static final int[] ABOVE = {-1, 0, 1, 0, 2};

    private final Net net = new Net();
    private final Net trial = new Net();
    private final Net image = new Net();
    private boolean imaged = false;
    private final Tables tables = new Tables();
    private final Function own = new Function();
    private final Function made = new Function();
    private final Shelf[] shelves = new Shelf[SHELVES];
    private final Net[] steps = new Net[MOST_STEPS];
    private int nextStep = 0;
    private int stepped = 0;
    private final Tape tape = new Tape();
    private final int[] trouble = new int[TROUBLES];
    private boolean troubled = false;
    private final Point[] bodies = new Point[KINDS];
    private Point latest = null;
    private final int[] names = new int[MOST_POINTS];

    public ColorFunctions() {
        for (int i = 0; i < SHELVES; i++) {
            shelves[i] = new Shelf();
        }
        for (int i = 0; i < MOST_STEPS; i++) {
            steps[i] = new Net();
        }
        bodies[0] = new Point();
        bodies[1] = new Open();
        bodies[2] = new Shut();
        bodies[3] = new Bare();
        bodies[4] = new Deep();
    }

    // ---- the network ----

    public int points(int n) {
        if (n < 1 || n > MOST_POINTS) {
            return BAD;
        }
        int was = net.n;
        if (!net.isFresh(n)) {
            takeStep();
            net.start(n);
        }
        return was;
    }

    public int weight(int point, int v) {
        if (!net.has(point) || v < 1 || v > MOST_WEIGHT) {
            return BAD;
        }
        int was = net.weight[point];
        if (net.total() - was + v > MOST_WEIGHT) {
            return STATE;
        }
        if (was != v) {
            takeStep();
            net.weight[point] = v;
        }
        return was;
    }

    public int kind(int point, int k) {
        if (!net.has(point) || k < 0 || k >= KINDS) {
            return BAD;
        }
        int was = net.kind[point];
        if (was != k) {
            takeStep();
            net.kind[point] = k;
        }
        return was;
    }

    public int line(int a, int b, int is) {
        if (!areTwo(a, b) || is < 0 || is > 1) {
            return BAD;
        }
        int was = net.hasLine(a, b) ? 1 : 0;
        if (was != is) {
            takeStep();
            net.setLine(a, b, is == 1);
        }
        return was;
    }

    public int joined(int a, int b) {
        if (!areTwo(a, b)) {
            return BAD;
        }
        if (!net.hasLine(a, b)) {
            return STATE;
        }
        takeStep();
        net.merge(a, b);
        return net.n;
    }

    public int of(int point, int what) {
        if (!net.has(point)) {
            return BAD;
        }
        switch (what) {
            case 0:
                return net.kind[point];
            case 1:
                return net.weight[point];
            case 2:
                return Integer.bitCount(net.near[point]);
            case 3:
                return net.near[point];
            case 4:
                return net.hanging(point);
            default:
                return BAD;
        }
    }

    private boolean areTwo(int a, int b) {
        return net.has(a) && net.has(b) && a != b;
    }

    // ---- what is asked of it ----

    public int partition(int w, int k, int i) {
        if (w < 1 || w > MOST_WEIGHT || k < -1 || k >= tables.many(w)) {
            return BAD;
        }
        if (k == -1) {
            return tables.many(w);
        }
        if (i < -1) {
            return BAD;
        }
        if (i == -1) {
            return tables.length(w, k);
        }
        return i < tables.length(w, k) ? tables.number(w, k, i) : NOT;
    }

    public long part(int basis, int k) {
        tables.find(net, own);
        return valueOf(own, basis, k);
    }

    public long colorings(int k) {
        if (k < 0 || k >= COLOURS) {
            return VOID;
        }
        tables.find(net, own);
        return tables.coloured(own, k);
    }

    public int sinks(int j) {
        if (j < 0 || j > net.n) {
            return BAD;
        }
        return tables.directions(net, j);
    }

    public int peeled(int what) {
        if (what < 0 || what > 1) {
            return BAD;
        }
        if (!net.isTree()) {
            return STATE;
        }
        return net.peel(what == 0);
    }

    private long valueOf(Function function, int basis, int k) {
        if (k < 0 || k >= tables.many(function.w)) {
            return VOID;
        }
        tables.fillTo(function.w);
        switch (basis) {
            case POWER:
                return function.power[k];
            case COUNTED:
                return tables.counted(function, k);
            case ELEMENTARY:
                return tables.elementary(function, k);
            default:
                return VOID;
        }
    }

    // ---- shelves with networks and functions ----

    public int keep(int shelf, int what) {
        Shelf on = shelfAt(shelf);
        if (on == null || what < 0 || what > 1) {
            return BAD;
        }
        if (what == 0) {
            on.net.copyFrom(net);
            on.sort = NETWORK;
        } else {
            tables.find(net, on.function);
            on.sort = FUNCTION;
        }
        return net.total();
    }

    public int lay(int shelf) {
        Shelf on = shelfAt(shelf);
        int refused = refusal(on, NETWORK);
        if (on == null || refused != 0) {
            return refused;
        }
        if (!net.isAs(on.net)) {
            takeStep();
            net.copyFrom(on.net);
        }
        return net.total();
    }

    public int like(int shelf) {
        Shelf on = shelfAt(shelf);
        int refused = refusal(on, NETWORK);
        if (on == null || refused != 0) {
            return refused;
        }
        return net.n == on.net.n && canRename(net, on.net, names, 0) ? 1 : 0;
    }

    public int same(int shelf) {
        Shelf on = shelfAt(shelf);
        int refused = refusal(on, FUNCTION);
        if (on == null || refused != 0) {
            return refused;
        }
        tables.find(net, own);
        return own.isAs(on.function) ? 1 : 0;
    }

    public int weightOf(int shelf) {
        Shelf on = shelfAt(shelf);
        int refused = refusal(on, FUNCTION);
        return on == null || refused != 0 ? refused : on.function.w;
    }

    public long partOf(int shelf, int basis, int k) {
        Shelf on = shelfAt(shelf);
        if (on == null || on.sort != FUNCTION) {
            return VOID;
        }
        return valueOf(on.function, basis, k);
    }

    public int plus(int one, int other, int to, int sign) {
        Shelf first = shelfAt(one);
        Shelf second = shelfAt(other);
        Shelf goal = shelfAt(to);
        if (first == null || second == null || goal == null || sign < 0 || sign > 1) {
            return BAD;
        }
        int refused = earlier(refusal(first, FUNCTION), refusal(second, FUNCTION));
        if (refused != 0) {
            return refused;
        }
        if (first.function.w != second.function.w) {
            return STATE;
        }
        made.become(first.function);
        made.add(second.function, sign == 0 ? 1 : -1);
        return putFunction(goal);
    }

    public int multiply(int one, int other, int to) {
        Shelf first = shelfAt(one);
        Shelf second = shelfAt(other);
        Shelf goal = shelfAt(to);
        if (first == null || second == null || goal == null) {
            return BAD;
        }
        int refused = earlier(refusal(first, FUNCTION), refusal(second, FUNCTION));
        if (refused != 0) {
            return refused;
        }
        if (first.function.w + second.function.w > MOST_WEIGHT) {
            return STATE;
        }
        tables.multiplied(first.function, second.function, made);
        return putFunction(goal);
    }

    private int putFunction(Shelf goal) {
        goal.function.become(made);
        goal.sort = FUNCTION;
        return made.w;
    }

    private Shelf shelfAt(int shelf) {
        return shelf >= 0 && shelf < SHELVES ? shelves[shelf] : null;
    }

    /** Why a SHELF that should hold this sort is refused; 0: it is not. */
    private static int refusal(Shelf on, int sort) {
        if (on == null) {
            return BAD;
        }
        if (on.sort == EMPTY) {
            return NOTHING_THERE;
        }
        return on.sort == sort ? 0 : OTHER_SORT;
    }

    /** Of the refusals of two SHELVES the one that counts: -11 ahead of -12, whichever has it. */
    private static int earlier(int one, int other) {
        if (one == 0 || other == 0) {
            return one + other;
        }
        return Math.max(one, other);
    }

    /** Whether the POINTS from this one on can be renamed, too, those ahead having their names. */
    private static boolean canRename(Net from, Net to, int[] names, int point) {
        if (point >= from.n || point >= MOST_POINTS) {
            return true;
        }
        for (int name = 0; name < to.n; name++) {
            if (mayBear(from, to, names, point, name)) {
                names[point] = name;
                if (canRename(from, to, names, point + 1)) {
                    return true;
                }
            }
        }
        return false;
    }

    private static boolean mayBear(Net from, Net to, int[] names, int point, int name) {
        if (from.weight[point] != to.weight[name]) {
            return false;
        }
        for (int i = 0; i < point; i++) {
            if (names[i] == name || from.hasLine(i, point) != to.hasLine(names[i], name)) {
                return false;
            }
        }
        return true;
    }

    // ---- shelves with rows ----

    public int row(int shelf, int n) {
        Shelf on = shelfAt(shelf);
        if (on == null || n > MOST_PLACES) {
            return BAD;
        }
        if (n < -1) {
            return SIZE_BELOW;
        }
        if (n == -1) {
            on.sort = EMPTY;
        } else {
            on.startRow(n);
        }
        return 1;
    }

    public int put(int shelf, int i, long v) {
        Shelf on = shelfAt(shelf);
        int refused = refusal(on, ROW);
        if (on == null || refused != 0) {
            return refused;
        }
        if (!on.hasPlace(i)) {
            return OUTSIDE;
        }
        on.places[i] = v;
        return 1;
    }

    public long get(int shelf, int i) {
        Shelf on = shelfAt(shelf);
        if (on == null || on.sort != ROW || !on.hasPlace(i)) {
            return VOID;
        }
        return on.places[i];
    }

    public int film(int shelf) {
        Shelf on = shelfAt(shelf);
        if (on == null) {
            return BAD;
        }
        tables.find(net, own);
        on.startRow(COLOURS);
        for (int k = 0; k < COLOURS; k++) {
            on.places[k] = tables.coloured(own, k);
        }
        return COLOURS;
    }

    public int fits(int shelf, int m, int what) {
        Shelf on = shelfAt(shelf);
        if (on == null || m < 0 || m > COLOURS || what < 0 || what > 1) {
            return BAD;
        }
        int refused = refusal(on, ROW);
        if (refused != 0) {
            return refused;
        }
        if (on.length < m) {
            return OUTSIDE;
        }
        int found = 0;
        for (int a = 0; a < net.n; a++) {
            for (int b = a + 1; b < net.n; b++) {
                if (fitsWith(a, b, on, m)) {
                    if (what == 1) {
                        return 10 * a + b;
                    }
                    found++;
                }
            }
        }
        return what == 1 ? NOT : found;
    }

    private boolean fitsWith(int a, int b, Shelf on, int m) {
        if (net.hasLine(a, b)) {
            return false;
        }
        trial.copyFrom(net);
        trial.setLine(a, b, true);
        tables.find(trial, own);
        for (int k = 0; k < m; k++) {
            if (tables.coloured(own, k) != on.places[k]) {
                return false;
            }
        }
        return true;
    }

    public int judge(int shelf) {
        Shelf on = shelfAt(shelf);
        int refused = refusal(on, ROW);
        if (on == null || refused != 0) {
            return refused;
        }
        for (int point = 0; point < net.n; point++) {
            if (!on.hasPlace(point)) {
                return JUDGE_BASE + point;
            }
            if (clashes(point, on)) {
                return point;
            }
        }
        return NOT;
    }

    private boolean clashes(int point, Shelf on) {
        for (int i = 0; i < point; i++) {
            if (net.hasLine(i, point) && on.places[i] == on.places[point]) {
                return true;
            }
        }
        return false;
    }

    // ---- steps ----

    public int back() {
        if (stepped == 0) {
            return STATE;
        }
        nextStep = nextStep == 0 ? MOST_STEPS - 1 : nextStep - 1;
        stepped--;
        net.copyFrom(steps[nextStep]);
        return stepped;
    }

    /** Called ahead of each change of THE NETWORK; the slots go round, so the eldest is lost. */
    private void takeStep() {
        steps[nextStep].copyFrom(net);
        nextStep = nextStep == MOST_STEPS - 1 ? 0 : nextStep + 1;
        if (stepped < MOST_STEPS) {
            stepped++;
        }
    }

    // ---- texts ----

    public int feed(int letter) {
        if (letter < 32 || letter > 126) {
            return BAD;
        }
        if (tape.isFull()) {
            return FULL;
        }
        tape.add(letter);
        return tape.length;
    }

    public int wipe() {
        int had = tape.length;
        tape.length = 0;
        return had;
    }

    public int read() {
        int fault = tape.scan();
        int answer;
        if (fault >= 0) {
            tellTrouble(tape.acts, tape.begin, fault);
            answer = FAULT_BASE - fault;
        } else {
            answer = obeyAll();
        }
        tape.length = 0;
        return answer;
    }

    private int obeyAll() {
        int at = 0;
        for (int done = 0; done < tape.acts; done++) {
            int answer = obey(at);
            if (answer < 0) {
                tellTrouble(done, at, answer);
                return ACT_BASE - done;
            }
            at += tape.isShort(at) ? 3 : 5;
        }
        return tape.acts;
    }

    private int obey(int at) {
        int a = tape.figure(at + 1);
        int b = tape.figure(at + 3);
        switch (tape.signAt(at)) {
            case 'n':
                return points(a);
            case 'l':
                return line(a, b, 1);
            case 'u':
                return line(a, b, 0);
            case 'w':
                return weight(a, b);
            case 'k':
                return kind(a, b);
            case 'j':
                return joined(a, b);
            case 'P':
                return drawMany(a, b, true);
            case 'S':
                return drawMany(a, b, false);
            default:
                return BAD;
        }
    }

    /** The LINES of P (each POINT to the next) or of S (the first POINT to all). */
    private int drawMany(int a, int b, boolean path) {
        if (!areTwo(a, b) || b < a) {
            return BAD;
        }
        for (int to = a + 1; to <= b; to++) {
            line(path ? to - 1 : a, to, 1);
        }
        return 0;
    }

    private void tellTrouble(int ahead, int begin, int end) {
        trouble[0] = ahead;
        trouble[1] = begin;
        trouble[2] = end;
        troubled = true;
    }

    public long why(int i, int what) {
        if (i < 0 || i >= TROUBLES || what < 0 || what > 1 || !troubled) {
            return VOID;
        }
        return what == 0 ? i + 1 : trouble[i];
    }

    // ---- points of kinds ----

    public int act(int point, int act, int x) {
        if (!net.has(point) || act < 0 || act >= ACTS) {
            return 0;
        }
        int kind = net.kind[point];
        if (kind < 0 || kind >= KINDS) {
            return 0;
        }
        latest = bodies[kind];
        latest.start(point, net.weight[point]);
        if (act == 0) {
            return latest.asks(x);
        }
        return act == 1 ? latest.says(x) : latest.tells(x);
    }

    public int trace(int i) {
        if (latest == null || i < 0 || i >= latest.ran) {
            return NOT;
        }
        return latest.trail[i];
    }

    public int taken(int point, int k) {
        if (!net.has(point) || k < 0 || k >= KINDS) {
            return BAD;
        }
        int at = net.kind[point];
        for (int climbed = 0; climbed < KINDS && at >= 0 && at < KINDS; climbed++) {
            if (at == k) {
                return net.weight[point];
            }
            at = ABOVE[at];
        }
        return STATE;
    }

    // ---- the image, and counts ----

    public int image() {
        image.copyFrom(net);
        imaged = true;
        return image.n;
    }

    public int undo() {
        if (!imaged) {
            return STATE;
        }
        net.copyFrom(image);
        stepped = 0;
        return net.n;
    }

    public int count(int what) {
        switch (what) {
            case 0:
                return net.n;
            case 1:
                return net.lines();
            case 2:
                return net.total();
            case 3:
                return net.pieces();
            case 4:
                return net.isTree() ? 1 : 0;
            case 5:
                return stepped;
            case 6:
                return tape.length;
            case 7:
                return heldShelves();
            default:
                return BAD;
        }
    }

    private int heldShelves() {
        int held = 0;
        for (int i = 0; i < SHELVES; i++) {
            if (shelves[i].sort != EMPTY) {
                held++;
            }
        }
        return held;
    }

    // ---- classes inside ----

    /** POINTS with WEIGHTS and KINDS; of each the NEIGHBOURS as bits. */
    private static final class Net {
        int n = 3;
        final int[] weight = {1, 1, 1, 1, 1, 1};
        final int[] kind = new int[MOST_POINTS];
        final int[] near = new int[MOST_POINTS];

        void start(int points) {
            n = points;
            for (int i = 0; i < MOST_POINTS; i++) {
                weight[i] = 1;
                kind[i] = 0;
                near[i] = 0;
            }
        }

        boolean isFresh(int points) {
            if (n != points) {
                return false;
            }
            for (int i = 0; i < n; i++) {
                if (weight[i] != 1 || kind[i] != 0 || near[i] != 0) {
                    return false;
                }
            }
            return true;
        }

        void copyFrom(Net from) {
            n = from.n;
            for (int i = 0; i < MOST_POINTS; i++) {
                weight[i] = from.weight[i];
                kind[i] = from.kind[i];
                near[i] = from.near[i];
            }
        }

        boolean isAs(Net other) {
            if (n != other.n) {
                return false;
            }
            for (int i = 0; i < n; i++) {
                if (weight[i] != other.weight[i] || kind[i] != other.kind[i] || near[i] != other.near[i]) {
                    return false;
                }
            }
            return true;
        }

        boolean has(int point) {
            return point >= 0 && point < n;
        }

        int total() {
            int sum = 0;
            for (int i = 0; i < n; i++) {
                sum += weight[i];
            }
            return sum;
        }

        boolean hasLine(int a, int b) {
            return (near[a] >> b & 1) == 1;
        }

        void setLine(int a, int b, boolean is) {
            if (is) {
                near[a] |= 1 << b;
                near[b] |= 1 << a;
            } else {
                near[a] &= ~(1 << b);
                near[b] &= ~(1 << a);
            }
        }

        void merge(int a, int b) {
            weight[a] += weight[b];
            setLine(a, b, false);
            for (int i = 0; i < n; i++) {
                if (hasLine(b, i)) {
                    setLine(a, i, true);
                }
            }
            remove(b);
        }

        private void remove(int b) {
            for (int i = b; i < n - 1; i++) {
                weight[i] = weight[i + 1];
                kind[i] = kind[i + 1];
                near[i] = near[i + 1];
            }
            n--;
            int low = (1 << b) - 1;
            for (int i = 0; i < n; i++) {
                near[i] = near[i] & low | near[i] >> 1 & ~low;
            }
        }

        /** All to which one of the set has a LINE. */
        int neighbours(int set) {
            int all = 0;
            for (int i = 0; i < n; i++) {
                if ((set >> i & 1) == 1) {
                    all |= near[i];
                }
            }
            return all;
        }

        int hanging(int point) {
            int set = 1 << point;
            for (int round = 0; round < n; round++) {
                set |= neighbours(set);
            }
            return set;
        }

        int lines() {
            int ends = 0;
            for (int i = 0; i < n; i++) {
                ends += Integer.bitCount(near[i]);
            }
            return ends >> 1;
        }

        int pieces() {
            int seen = 0;
            int found = 0;
            for (int i = 0; i < n; i++) {
                if ((seen >> i & 1) == 0) {
                    seen |= hanging(i);
                    found++;
                }
            }
            return found;
        }

        boolean isTree() {
            return pieces() == 1 && lines() == n - 1;
        }

        /** Of a TREE: the rounds, or else the CENTRE. */
        int peel(boolean rounds) {
            int left = (1 << n) - 1;
            int round = 0;
            while (Integer.bitCount(left) > 2 && round < n) {
                left &= ~ends(left);
                round++;
            }
            return rounds ? round : left;
        }

        private int ends(int left) {
            int set = 0;
            for (int i = 0; i < n; i++) {
                if ((left >> i & 1) == 1 && Integer.bitCount(near[i] & left) == 1) {
                    set |= 1 << i;
                }
            }
            return set;
        }
    }

    /** A FUNCTION: its W and its POWER of each PARTITION of W. */
    private static final class Function {
        int w = 1;
        final long[] power = new long[Tables.WIDEST];

        void start(int weight) {
            w = weight;
            for (int k = 0; k < Tables.WIDEST; k++) {
                power[k] = 0;
            }
        }

        void become(Function from) {
            w = from.w;
            for (int k = 0; k < Tables.WIDEST; k++) {
                power[k] = from.power[k];
            }
        }

        void add(Function other, long times) {
            for (int k = 0; k < Tables.WIDEST; k++) {
                power[k] += times * other.power[k];
            }
        }

        /** All places count, as those behind the last PARTITION of W are always 0. */
        boolean isAs(Function other) {
            for (int k = 0; k < Tables.WIDEST; k++) {
                if (power[k] != other.power[k]) {
                    return false;
                }
            }
            return w == other.w;
        }
    }

    /** What a SHELF holds; only that of its sort counts. */
    private static final class Shelf {
        int sort = EMPTY;
        final Net net = new Net();
        final Function function = new Function();
        final long[] places = new long[MOST_PLACES];
        int length = 0;

        void startRow(int n) {
            sort = ROW;
            length = n;
            for (int i = 0; i < MOST_PLACES; i++) {
                places[i] = 0;
            }
        }

        boolean hasPlace(int i) {
            return i >= 0 && i < length;
        }
    }

    /**
     * The PARTITIONS of 0 .. 6, one row each, those of a lesser number ahead, and what is
     * reckoned by them. A PARTITION's code has three bits for how often each number is in
     * it, so that codes of PARTITIONS put together are added.
     */
    private static final class Tables {
        static final int WIDEST = 11, ROWS = 30;

        private final int[] start = new int[MOST_WEIGHT + 1];
        private final int[] many = new int[MOST_WEIGHT + 1];
        private final int[] length = new int[ROWS];
        private final int[] code = new int[ROWS];
        private final int[][] numbers = new int[ROWS][MOST_WEIGHT];
        private final int[][] lays = new int[ROWS][WIDEST];
        private final int[][] grids = new int[ROWS][WIDEST];
        private int filled = 0;
        private final int[] mass = new int[SETS];
        private final boolean[] free = new boolean[SETS];
        private final long[] hung = new long[SETS];
        private final long[] solved = new long[WIDEST];

        Tables() {
            many[0] = 1;
            lays[0][0] = 1;
            grids[0][0] = 1;
            int row = 1;
            for (int w = 1; w <= MOST_WEIGHT; w++) {
                start[w] = row;
                row = listRows(w, row);
                many[w] = row - start[w];
            }
        }

        /** A PARTITION is its first number and a PARTITION of the rest with none greater. */
        private int listRows(int w, int from) {
            int row = from;
            for (int head = w; head >= 1; head--) {
                int end = start[w - head] + many[w - head];
                for (int tail = start[w - head]; tail < end && row < ROWS; tail++) {
                    if (numbers[tail][0] <= head) {
                        writeRow(row, head, tail);
                        row++;
                    }
                }
            }
            return row;
        }

        private void writeRow(int row, int head, int tail) {
            numbers[row][0] = head;
            for (int i = 0; i < MOST_WEIGHT - 1; i++) {
                numbers[row][i + 1] = numbers[tail][i];
            }
            length[row] = length[tail] + 1;
            code[row] = code[tail] + unit(head);
        }

        int many(int w) {
            return w >= 0 && w <= MOST_WEIGHT ? many[w] : 0;
        }

        int length(int w, int k) {
            return k >= 0 && k < many(w) ? length[start[w] + k] : 0;
        }

        int number(int w, int k, int i) {
            return i >= 0 && i < length(w, k) ? numbers[start[w] + k][i] : 0;
        }

        private static int unit(int number) {
            return number < 1 ? 0 : 1 << 3 * (number - 1);
        }

        /** Which PARTITION of w has this code; -1: none. */
        private int search(int w, int wanted) {
            for (int k = 0; k < many(w); k++) {
                if (code[start[w] + k] == wanted) {
                    return k;
                }
            }
            return -1;
        }

        // -- the function of a network --

        /** Sets of LINES are summed block by block, as all 2^15 of them would be slow. */
        void find(Net net, Function to) {
            to.start(net.total());
            lookAtSets(net);
            int all = (1 << net.n) - 1;
            for (int set = 1; set <= all; set++) {
                hung[set] = hangingSum(set);
            }
            splitInBlocks(this, all, 0, 1, to, 0);
        }

        /** Of each set of POINTS the WEIGHT, and whether it is free of LINES. */
        private void lookAtSets(Net net) {
            mass[0] = 0;
            free[0] = true;
            for (int i = 0; i < net.n; i++) {
                int bit = 1 << i;
                for (int rest = 0; rest < bit; rest++) {
                    mass[bit | rest] = mass[rest] + net.weight[i];
                    free[bit | rest] = free[rest] && (net.near[i] & rest) == 0;
                }
            }
        }

        /**
         * Even less odd sets of LINES by which this set of POINTS hangs together: of all sets
         * of LINES within it (that is 1 or 0) less those by which its least POINT hangs
         * together with a part of it alone.
         */
        private long hangingSum(int set) {
            int least = set & -set;
            long sum = free[set] ? 1 : 0;
            for (int part = (set - 1) & set; part > 0; part = (part - 1) & set) {
                if ((part & least) != 0 && free[set ^ part]) {
                    sum -= hung[part];
                }
            }
            return sum;
        }

        /** Each call takes a POINT away at least, so that none is as deep as there are POINTS. */
        private static void splitInBlocks(Tables by, int left, int ahead, long times, Function to, int depth) {
            if (left == 0) {
                int k = by.search(to.w, ahead);
                if (k >= 0) {
                    to.power[k] += times;
                }
                return;
            }
            if (depth >= MOST_POINTS) {
                return;
            }
            int least = left & -left;
            for (int block = left; block > 0; block = (block - 1) & left) {
                if ((block & least) != 0 && by.hung[block] != 0) {
                    int code = ahead + unit(by.mass[block]);
                    splitInBlocks(by, left ^ block, code, times * by.hung[block], to, depth + 1);
                }
            }
        }

        /** COLOURINGS are the FUNCTION with k for each number of each PARTITION. */
        long coloured(Function function, int k) {
            long sum = 0;
            for (int l = 0; l < many(function.w); l++) {
                long term = function.power[l];
                for (int i = 0; i < length(function.w, l); i++) {
                    term *= k;
                }
                sum += term;
            }
            return sum;
        }

        void multiplied(Function one, Function other, Function to) {
            to.start(one.w + other.w);
            for (int a = 0; a < many(one.w); a++) {
                for (int b = 0; b < many(other.w); b++) {
                    int k = search(to.w, code[start[one.w] + a] + code[start[other.w] + b]);
                    if (k >= 0) {
                        to.power[k] += one.power[a] * other.power[b];
                    }
                }
            }
        }

        // -- counted and elementary (fillTo comes ahead of both) --

        long counted(Function function, int m) {
            long sum = 0;
            for (int l = 0; l < many(function.w); l++) {
                sum += function.power[l] * lays[start[function.w] + l][m];
            }
            return sum;
        }

        /**
         * Of a PARTITION and the one turned over (rows for columns) there is one table of 0
         * and 1, and none with one ahead of that: so each COUNTED tells one more ELEMENTARY.
         */
        long elementary(Function function, int k) {
            int w = function.w;
            for (int m = 0; m < many(w); m++) {
                long left = counted(function, m);
                for (int ahead = 0; ahead < m; ahead++) {
                    int l = turned(w, ahead);
                    left -= solved[l] * grids[start[w] + l][m];
                }
                solved[turned(w, m)] = left;
            }
            return solved[k];
        }

        private int turned(int w, int k) {
            int sum = 0;
            for (int column = 0; column < w; column++) {
                int high = 0;
                for (int i = 0; i < length(w, k); i++) {
                    if (number(w, k, i) > column) {
                        high++;
                    }
                }
                sum += unit(high);
            }
            return Math.max(0, search(w, sum));
        }

        /** Only when they are asked for, as most objects never need them all. */
        void fillTo(int w) {
            while (filled < w && filled < MOST_WEIGHT) {
                filled++;
                for (int l = 0; l < many[filled]; l++) {
                    fillRow(filled, start[filled] + l);
                }
            }
        }

        /** The first number is laid in each way that there is, the others are of a lesser W. */
        private void fillRow(int w, int row) {
            int head = numbers[row][0];
            int rest = start[w - head] + Math.max(0, search(w - head, code[row] - unit(head)));
            for (int m = 0; m < many[w]; m++) {
                int goal = start[w] + m;
                lays[row][m] = layHead(w - head, head, rest, goal);
                grids[row][m] = spreadHead(w - head, head, rest, goal);
            }
        }

        private int layHead(int left, int head, int rest, int goal) {
            int sum = 0;
            for (int i = 0; i < length[goal]; i++) {
                int place = numbers[goal][i];
                if (place >= head) {
                    int k = search(left, code[goal] - unit(place) + unit(place - head));
                    sum += k < 0 ? 0 : lays[rest][k];
                }
            }
            return sum;
        }

        private int spreadHead(int left, int head, int rest, int goal) {
            int sum = 0;
            for (int set = 0; set < 1 << length[goal]; set++) {
                if (Integer.bitCount(set) == head) {
                    int k = search(left, lowered(goal, set));
                    sum += k < 0 ? 0 : grids[rest][k];
                }
            }
            return sum;
        }

        /** The code of a PARTITION with those of its numbers that are in the set less by 1. */
        private int lowered(int goal, int set) {
            int sum = code[goal];
            for (int i = 0; i < length[goal]; i++) {
                if ((set >> i & 1) == 1) {
                    sum += unit(numbers[goal][i] - 1) - unit(numbers[goal][i]);
                }
            }
            return sum;
        }

        // -- directions --

        int directions(Net net, int j) {
            lookAtSets(net);
            int all = (1 << net.n) - 1;
            int sum = 0;
            for (int sinks = 1; sinks <= all; sinks++) {
                if (free[sinks] && Integer.bitCount(sinks) == j) {
                    sum += drained(net, free, all, sinks, 0);
                }
            }
            return sum;
        }

        /**
         * Directions without rings among these POINTS with just these sinks: the sinks of the
         * rest are no sinks here, so each has a LINE to one. Each call takes a POINT away at
         * least, so that none is as deep as there are POINTS.
         */
        private static int drained(Net net, boolean[] free, int set, int sinks, int depth) {
            int rest = set & ~sinks;
            if (rest == 0) {
                return 1;
            }
            if (depth >= MOST_POINTS) {
                return 0;
            }
            int reached = net.neighbours(sinks) & rest;
            int sum = 0;
            for (int next = reached; next > 0; next = (next - 1) & reached) {
                if (free[next]) {
                    sum += drained(net, free, rest, next, depth + 1);
                }
            }
            return sum;
        }
    }

    /** THE TAPE, and where the latest look at it came to. */
    private static final class Tape {
        static final int MOST_BYTES = 80;
        static final int LETTER = 0, FIRST = 1, COMMA = 2, SECOND = 3, BREAK = 4;

        private final int[] bytes = new int[MOST_BYTES];
        int length = 0;
        int acts = 0;
        int begin = 0;

        boolean isFull() {
            return length >= MOST_BYTES;
        }

        void add(int letter) {
            if (length >= 0 && length < MOST_BYTES) {
                bytes[length] = letter;
                length++;
            }
        }

        int signAt(int at) {
            return at >= 0 && at < length ? bytes[at] : 0;
        }

        int figure(int at) {
            return signAt(at) - '0';
        }

        boolean isShort(int at) {
            return signAt(at) == 'n';
        }

        /** The FAULT; -1: none. Tells how many ACTS are whole, and where the latest begins. */
        int scan() {
            int due = LETTER;
            acts = 0;
            begin = 0;
            for (int at = 0; at < length; at++) {
                if (!isDue(due, signAt(at))) {
                    return at;
                }
                if (due == BREAK) {
                    begin = at + 1;
                }
                due = dueBehind(due);
                if (due == BREAK) {
                    acts++;
                }
            }
            return due == BREAK ? -1 : length;
        }

        private static boolean isDue(int due, int sign) {
            switch (due) {
                case LETTER:
                    return isLetter(sign);
                case COMMA:
                    return sign == ',';
                case BREAK:
                    return sign == ';';
                default:
                    return sign >= '0' && sign <= '9';
            }
        }

        private static boolean isLetter(int sign) {
            return sign == 'n' || sign == 'l' || sign == 'u' || sign == 'w' || sign == 'k'
                || sign == 'j' || sign == 'P' || sign == 'S';
        }

        private int dueBehind(int due) {
            if (due == FIRST && isShort(begin)) {
                return BREAK;
            }
            return due == BREAK ? LETTER : due + 1;
        }
    }

    /** What all POINTS have, whatever they are else. */
    private interface Tinted {
        void began(int body);

        default int tells(int x) {
            began(1);
            return x + 4;
        }
    }

    /** The bodies of one KIND, for the POINT that acts, and THE TRACE of its act. */
    private static class Point implements Tinted {
        static final int MOST_BODIES = 24;

        int number = 0;
        int mass = 1;
        final int[] trail = new int[MOST_BODIES];
        int ran = 0;

        void start(int i, int m) {
            number = i;
            mass = m;
            ran = 0;
        }

        public void began(int body) {
            if (ran >= 0 && ran < MOST_BODIES) {
                trail[ran] = body;
                ran++;
            }
        }

        int asks(int x) {
            began(10);
            return x + number;
        }

        int says(int x) {
            began(11);
            return tells(x) - asks(1);
        }
    }

    private static class Open extends Point {
        int asks(int x) {
            began(20);
            return super.asks(x) ^ 6;
        }
    }

    private static class Shut extends Open {
        public int tells(int x) {
            began(30);
            return super.tells(x) * 2;
        }
    }

    private static final class Bare extends Point {
        int says(int x) {
            began(40);
            return super.says(x + 1);
        }
    }

    private static final class Deep extends Shut {
        public int tells(int x) {
            began(50);
            return super.tells(x) - mass;
        }

        int asks(int x) {
            began(51);
            return -super.asks(x);
        }
    }
}

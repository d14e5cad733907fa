/** Networks mapped into networks; ../shared/DOC.md says what each call answers. */
public final class NetMaps {
    public static final int NONE = -1;

    private static final int EMPTY = -2;
    private static final int BEYOND = -3;
    private static final int LACKING = -4;

    private static final int DRAWERS = 6;
    private static final int NODES = 7;
    private static final int ALL = 127;
    private static final int HEAVIEST = 9;
    private static final int STATES = 10;
    private static final int TAPE = 160;
    private static final int FED = 20;
    private static final int TEXT = 80;
    private static final int LETTERS = 90;
    private static final int CROWD = 2000;
    private static final int LONGEST_WAY = 9;
    // What an operation of three on three nodes has a place for.
    private static final int PLACES = 27;
    private static final int SMALL = 3;

    private static final int ALL_OPERATIONS = 0;
    private static final int FAIR = 2;
    private static final int MAJORITY = 3;

    private static final int DUAL = 0;
    private static final int BETWEEN = 1;
    private static final int UNLIKE = 2;

    private final State now;
    private final State[] states;
    private int kept;
    private final int[] tape;
    private int fed;
    private final Reader reader;
    private final Net spare;
    private final Search finder;
    private final Scale scale;
    private final Crowd crowd;
    private final int[] target;
    private final int[] other;
    private final int[] letters;

    public NetMaps() {
        now = new State();
        states = new State[STATES];
        for (int i = 0; i < STATES; i++) {
            states[i] = new State();
        }
        tape = new int[TAPE];
        reader = new Reader();
        spare = new Net();
        finder = new Search();
        scale = new Scale();
        crowd = new Crowd();
        target = new int[PLACES];
        other = new int[PLACES];
        letters = new int[LETTERS];
    }

    // ---- texts and drawers

    public int feed(int a, int b, int c, int d, int e) {
        if (fed > TAPE - FED) {
            return NONE;
        }
        feedInt(a);
        feedInt(b);
        feedInt(c);
        feedInt(d);
        feedInt(e);
        return fed;
    }

    private void feedInt(int bytes) {
        for (int shift = 24; shift >= 0; shift -= 8) {
            if (fed < TAPE) {
                tape[fed] = bytes >>> shift & 255;
                fed++;
            }
        }
    }

    public int net(int d, int n) {
        if (noDrawer(d) || n < 1 || n > TEXT || n > fed) {
            return NONE;
        }
        fed = 0;
        reader.start();
        for (int i = 0; i < n; i++) {
            int fault = reader.faultOf(tape[i]);
            if (fault != 0) {
                return -1000 * fault - i;
            }
        }
        if (!reader.mayEnd()) {
            return -1000 * Reader.MISPLACED - n;
        }
        Net net = in(d);
        net.like(reader.told);
        return net.lines();
    }

    public boolean put(int d, int n) {
        if (noDrawer(d) || n < 1 || n > NODES) {
            return false;
        }
        in(d).begin(n);
        return true;
    }

    public int take(int d) {
        if (noDrawer(d)) {
            return NONE;
        }
        boolean was = !in(d).isEmpty();
        in(d).begin(0);
        return was ? 1 : 0;
    }

    public boolean line(int d, int a, int b, boolean is) {
        if (noNode(d, a) || noNode(d, b) || in(d).isEmpty()) {
            return false;
        }
        Net net = in(d);
        if (net.joins(a, b) == is) {
            return false;
        }
        if (is) {
            net.join(a, b);
        } else {
            net.sever(a, b);
        }
        return true;
    }

    public int told(int d, int what) {
        if (noDrawer(d) || what < 0 || what > 8) {
            return NONE;
        }
        Net net = in(d);
        if (net.isEmpty()) {
            return EMPTY;
        }
        switch (what) {
            case 0:
                return net.nodes;
            case 1:
                return net.lines();
            case 2:
                return Integer.bitCount(net.loops());
            case 3:
                return net.pieces();
            case 4:
                return net.isTwoWay() ? 1 : 0;
            case 5:
                return net.shortestRing();
            case 6:
                return net.onRings();
            case 7:
                return net.most(true);
            default:
                return net.most(false);
        }
    }

    public int row(int d, int a, boolean to) {
        if (noNode(d, a)) {
            return NONE;
        }
        Net net = in(d);
        if (net.isEmpty()) {
            return EMPTY;
        }
        return to ? net.to[a] : net.from[a];
    }

    public int reach(int d, int a) {
        if (noNode(d, a)) {
            return NONE;
        }
        return in(d).isEmpty() ? EMPTY : in(d).ahead(a);
    }

    // ---- made

    public int make(int d, int e, int f, int how) {
        if (noDrawer(d) || noDrawer(e) || noDrawer(f) || how < 0 || how > 4) {
            return NONE;
        }
        Net one = in(d);
        Net two = in(e);
        if (one.isEmpty() || two.isEmpty()) {
            return EMPTY;
        }
        int nodes = nodesMade(one, two, how);
        if (nodes > NODES) {
            return BEYOND;
        }
        // The drawer made into may be one of those made from.
        spare.begin(nodes);
        for (int a = 0; a < nodes; a++) {
            for (int b = 0; b < nodes; b++) {
                if (madeLine(one, two, how, a, b)) {
                    spare.join(a, b);
                }
            }
        }
        return settle(f);
    }

    private static int nodesMade(Net one, Net two, int how) {
        switch (how) {
            case 0:
                return one.nodes + two.nodes;
            case 1:
                return one.nodes * two.nodes;
            case 4:
                return powerNodes(one.nodes, two.nodes);
            default:
                return one.nodes == two.nodes ? one.nodes : NODES + 1;
        }
    }

    private static int powerNodes(int base, int exponent) {
        int power = 1;
        for (int i = 0; i < exponent && power <= NODES; i++) {
            power *= base;
        }
        return power;
    }

    private static boolean madeLine(Net one, Net two, int how, int a, int b) {
        switch (how) {
            case 0:
                return sumLine(one, two, a, b);
            case 1:
                return productLine(one, two, a, b);
            case 2:
                return one.joins(a, b) || two.joins(a, b);
            case 3:
                return one.joins(a, b) && two.joins(a, b);
            default:
                return powerLine(one, two, a, b);
        }
    }

    private static boolean sumLine(Net one, Net two, int a, int b) {
        int ahead = one.nodes;
        if (a < ahead && b < ahead) {
            return one.joins(a, b);
        }
        return a >= ahead && b >= ahead && two.joins(a - ahead, b - ahead);
    }

    private static boolean productLine(Net one, Net two, int a, int b) {
        int m = two.nodes;
        if (m < 1) {
            return false;
        }
        return one.joins(a / m, b / m) && two.joins(a % m, b % m);
    }

    private static boolean powerLine(Net base, Net exponent, int f, int g) {
        for (int a = 0; a < exponent.nodes; a++) {
            for (int b = 0; b < exponent.nodes; b++) {
                if (exponent.joins(a, b)
                        && !base.joins(digit(f, base.nodes, exponent.nodes - 1 - a),
                                digit(g, base.nodes, exponent.nodes - 1 - b))) {
                    return false;
                }
            }
        }
        return true;
    }

    /** The digit of a number by a base, place 0 the fastest. */
    private static int digit(int number, int base, int place) {
        if (base < 1) {
            return 0;
        }
        int rest = number;
        for (int i = 0; i < place; i++) {
            rest /= base;
        }
        return rest % base;
    }

    public int change(int d, int how) {
        if (noDrawer(d) || how < 0 || how > 6) {
            return NONE;
        }
        Net net = in(d);
        if (net.isEmpty()) {
            return EMPTY;
        }
        if (how == 5) {
            cut(net, leastCore(net));
            return settle(d);
        }
        spare.begin(net.nodes);
        for (int a = 0; a < net.nodes; a++) {
            for (int b = 0; b < net.nodes; b++) {
                if (changedLine(net, how, a, b)) {
                    spare.join(a, b);
                }
            }
        }
        return settle(d);
    }

    private static boolean changedLine(Net net, int how, int a, int b) {
        switch (how) {
            case 0:
                return net.joins(b, a);
            case 1:
                return net.joins(a, b) || net.joins(b, a);
            case 2:
                return net.joins(a, b) == (a == b);
            case 3:
                return net.joins(a, b) || a == b;
            case 4:
                return net.joins(a, b) && a != b;
            default:
                return has(net.ahead(a), b);
        }
    }

    public int part(int d, int some, int e) {
        if (noDrawer(d) || noDrawer(e)) {
            return NONE;
        }
        Net net = in(d);
        if (net.isEmpty()) {
            return EMPTY;
        }
        if (some == 0 || (some & ~net.all()) != 0) {
            return BEYOND;
        }
        cut(net, some);
        return settle(e);
    }

    /** Some nodes of a network, numbered anew, come into the spare one. */
    private void cut(Net net, int some) {
        spare.begin(Integer.bitCount(some & net.all()));
        for (int a = 0; a < net.nodes; a++) {
            for (int b = 0; b < net.nodes; b++) {
                if (has(some, a) && has(some, b) && net.joins(a, b)) {
                    spare.join(below(some, a), below(some, b));
                }
            }
        }
    }

    private static int below(int some, int a) {
        return Integer.bitCount(some & (1 << a) - 1);
    }

    public int drawn(int d, int n, int seed, int tenths) {
        if (noDrawer(d) || n < 1 || n > NODES || tenths < 0 || tenths > 10) {
            return NONE;
        }
        spare.begin(n);
        int x = seed & 65535;
        for (int a = 0; a < n; a++) {
            for (int b = 0; b < n; b++) {
                if (a != b) {
                    x = 25173 * x + 13849 & 65535;
                    if (x / 4 % 10 < tenths) {
                        spare.join(a, b);
                    }
                }
            }
        }
        return settle(d);
    }

    // ---- maps

    public int list(int a, int some) {
        if (a < 0 || a >= NODES || some < 0 || some > ALL) {
            return NONE;
        }
        int was = now.lists[a];
        now.lists[a] = some;
        return was;
    }

    public int free() {
        int cut = 0;
        for (int a = 0; a < NODES; a++) {
            if (now.lists[a] != ALL) {
                now.lists[a] = ALL;
                cut++;
            }
        }
        return cut;
    }

    public int maps(int d, int e, int sort) {
        if (noDrawer(d) || noDrawer(e) || sort < 0 || sort > 4) {
            return NONE;
        }
        Net g = in(d);
        Net h = in(e);
        if (g.isEmpty() || h.isEmpty()) {
            return EMPTY;
        }
        if (sort == 4) {
            // One to one with as many nodes and lines leaves no line over.
            if (g.nodes != h.nodes || g.lines() != h.lines()) {
                return 0;
            }
            finder.freely(g, h);
        } else {
            finder.byLists(g, h, now.lists);
        }
        if (sort == 1 || sort == 4) {
            finder.bound(g.nodes, NODES);
        }
        if (sort == 2 || sort == 3) {
            finder.bound(h.nodes, NODES);
        }
        return sort == 3 ? finder.howManyReachLines() : finder.howMany();
    }

    public int map(int d, int e, int k, int a) {
        if (noNode(d, a) || noDrawer(e) || k < 0) {
            return NONE;
        }
        if (in(d).isEmpty() || in(e).isEmpty()) {
            return EMPTY;
        }
        finder.byLists(in(d), in(e), now.lists);
        return finder.pick(k) ? finder.image[a] : BEYOND;
    }

    public int becomes(int d, int e, int a, int x) {
        if (noNode(d, a) || noNode(e, x)) {
            return NONE;
        }
        if (in(d).isEmpty() || in(e).isEmpty()) {
            return EMPTY;
        }
        finder.byLists(in(d), in(e), now.lists);
        finder.may[a] &= 1 << x;
        return finder.howMany();
    }

    public int left(int d, int e, int a) {
        if (noNode(d, a) || noDrawer(e)) {
            return NONE;
        }
        if (in(d).isEmpty() || in(e).isEmpty()) {
            return EMPTY;
        }
        finder.byLists(in(d), in(e), now.lists);
        finder.narrow();
        return finder.may[a];
    }

    public int fits(int d, int e) {
        if (noDrawer(d) || noDrawer(e)) {
            return NONE;
        }
        if (in(d).isEmpty() || in(e).isEmpty()) {
            return EMPTY;
        }
        return (fitsInto(in(d), in(e)) ? 1 : 0) + (fitsInto(in(e), in(d)) ? 2 : 0);
    }

    private boolean fitsInto(Net g, Net h) {
        finder.freely(g, h);
        return finder.finds();
    }

    public int search(int d, int e) {
        if (noDrawer(d) || noDrawer(e)) {
            return NONE;
        }
        if (in(d).isEmpty() || in(e).isEmpty()) {
            return EMPTY;
        }
        finder.byLists(in(d), in(e), now.lists);
        finder.finds();
        return finder.tries;
    }

    public int tighten(int d, int e) {
        if (noDrawer(d) || noDrawer(e)) {
            return NONE;
        }
        Net g = in(d);
        Net h = in(e);
        if (g.isEmpty() || h.isEmpty()) {
            return EMPTY;
        }
        finder.byLists(g, h, now.lists);
        finder.narrow();
        int out = 0;
        for (int a = 0; a < g.nodes; a++) {
            int left = finder.may[a];
            out += Integer.bitCount(now.lists[a] & h.all() & ~left);
            now.lists[a] = left;
        }
        return out;
    }

    public int image(int d, int e, boolean fewest, int what) {
        if (noDrawer(d) || noDrawer(e) || what < 0 || what > 2) {
            return NONE;
        }
        if (in(d).isEmpty() || in(e).isEmpty()) {
            return EMPTY;
        }
        finder.byLists(in(d), in(e), now.lists);
        int size = boundToImage(fewest);
        if (size == 0) {
            return LACKING;
        }
        switch (what) {
            case 0:
                return size;
            case 1:
                return finder.howMany();
            default:
                copyImage(target);
                return finder.numberOf(target);
        }
    }

    /** Bounds the search to the smallest or greatest images: their size, 0 without maps. */
    private int boundToImage(boolean fewest) {
        if (!finder.finds()) {
            return 0;
        }
        for (int i = 1; i <= NODES; i++) {
            int size = fewest ? i : NODES + 1 - i;
            finder.bound(fewest ? 0 : size, fewest ? size : NODES);
            if (finder.finds()) {
                return size;
            }
        }
        return 0;
    }

    private void copyImage(int[] into) {
        for (int a = 0; a < PLACES; a++) {
            into[a] = finder.image[a];
        }
    }

    public int weigh(int x, int weight) {
        if (x < 0 || x >= NODES || weight < 0 || weight > HEAVIEST) {
            return NONE;
        }
        int was = now.weights[x];
        now.weights[x] = weight;
        return was;
    }

    public int cheapest(int d, int e, boolean least, int what) {
        if (noDrawer(d) || noDrawer(e) || what < 0 || what > 2) {
            return NONE;
        }
        if (in(d).isEmpty() || in(e).isEmpty()) {
            return EMPTY;
        }
        finder.byLists(in(d), in(e), now.lists);
        if (scale.weighAll(finder, now.weights, least) == 0) {
            return LACKING;
        }
        switch (what) {
            case 0:
                return scale.best[0];
            case 1:
                return scale.alike[0];
            default:
                return scale.first[0];
        }
    }

    public int behind(int d, int e, int f, int k, int l) {
        if (noDrawer(d) || noDrawer(e) || noDrawer(f) || k < 0 || l < 0) {
            return NONE;
        }
        if (in(d).isEmpty() || in(e).isEmpty() || in(f).isEmpty()) {
            return EMPTY;
        }
        finder.freely(in(d), in(e));
        if (!finder.pick(k)) {
            return BEYOND;
        }
        copyImage(target);
        finder.freely(in(e), in(f));
        if (!finder.pick(l)) {
            return BEYOND;
        }
        for (int a = 0; a < in(d).nodes; a++) {
            target[a] = finder.image[target[a]];
        }
        finder.freely(in(d), in(f));
        return finder.numberOf(target);
    }

    // ---- cores

    public int core(int d, int what) {
        if (noDrawer(d) || what < 0 || what > 3) {
            return NONE;
        }
        Net net = in(d);
        if (net.isEmpty()) {
            return EMPTY;
        }
        switch (what) {
            case 0:
                finder.byRetraction(net);
                return finder.howMany();
            case 1:
                return leastCore(net);
            case 2:
                return Integer.bitCount(leastCore(net));
            default:
                return retracts(net);
        }
    }

    private int leastCore(Net net) {
        int core = net.all();
        for (int some = 1; some < net.all(); some++) {
            if (Integer.bitCount(some) < Integer.bitCount(core) && retractsOnto(net, some)) {
                core = some;
            }
        }
        return core;
    }

    private int retracts(Net net) {
        int sets = 0;
        for (int some = 1; some <= net.all(); some++) {
            if (retractsOnto(net, some)) {
                sets++;
            }
        }
        return sets;
    }

    private boolean retractsOnto(Net net, int some) {
        finder.freely(net, net);
        for (int a = 0; a < net.nodes; a++) {
            finder.may[a] &= has(some, a) ? 1 << a : some;
        }
        return finder.finds();
    }

    public int retraction(int d, int k, int a) {
        if (noNode(d, a) || k < 0) {
            return NONE;
        }
        if (in(d).isEmpty()) {
            return EMPTY;
        }
        finder.byRetraction(in(d));
        return finder.pick(k) ? finder.image[a] : BEYOND;
    }

    // ---- maps beside maps

    public int steps(int d, int e, int k, int l) {
        if (noDrawer(d) || noDrawer(e) || k < 0 || l < 0) {
            return NONE;
        }
        if (in(d).isEmpty() || in(e).isEmpty()) {
            return EMPTY;
        }
        if (!gathered(in(d), in(e)) || k >= crowd.size || l >= crowd.size) {
            return BEYOND;
        }
        crowd.spread(k);
        return crowd.steps[l] < 0 ? LACKING : crowd.steps[l];
    }

    public int crowds(int d, int e, int what) {
        if (noDrawer(d) || noDrawer(e) || what < 0 || what > 3) {
            return NONE;
        }
        if (in(d).isEmpty() || in(e).isEmpty()) {
            return EMPTY;
        }
        if (!gathered(in(d), in(e))) {
            return BEYOND;
        }
        switch (what) {
            case 0:
                return crowd.frozen();
            case 1:
                return crowd.parts(false);
            case 2:
                return crowd.parts(true);
            default:
                return crowd.twos();
        }
    }

    /** Gathers all maps by lists, if the crowd has room for them. */
    private boolean gathered(Net g, Net h) {
        finder.byLists(g, h, now.lists);
        int many = finder.howMany();
        if (many > CROWD) {
            return false;
        }
        crowd.gatherAll(finder, many);
        return true;
    }

    // ---- operations, dualities

    public int operations(int d, int what) {
        if (noDrawer(d) || what < 0 || what > MAJORITY) {
            return NONE;
        }
        Net net = in(d);
        if (net.isEmpty()) {
            return EMPTY;
        }
        if (net.nodes > SMALL) {
            return BEYOND;
        }
        operating(net, what);
        return finder.howMany();
    }

    public int operation(int d, int what, int k, int x, int y, int z) {
        if (noNode(d, x) || noNode(d, y) || what < 0 || what > MAJORITY || k < 0) {
            return NONE;
        }
        if (what == MAJORITY && noNode(d, z)) {
            return NONE;
        }
        Net net = in(d);
        if (net.isEmpty()) {
            return EMPTY;
        }
        if (net.nodes > SMALL) {
            return BEYOND;
        }
        operating(net, what);
        if (!finder.pick(k)) {
            return LACKING;
        }
        int row = x * net.nodes + y;
        return finder.image[place(net.nodes, what, what == MAJORITY ? row * net.nodes + z : row)];
    }

    /** Readies the search for operations: maps of a table of places, made anew as the spare network. */
    private void operating(Net net, int what) {
        int arity = what == MAJORITY ? 3 : 2;
        int rows = powerRows(net.nodes, arity);
        spare.begin(what == FAIR ? net.nodes * (net.nodes + 1) / 2 : rows);
        for (int s = 0; s < rows; s++) {
            for (int t = 0; t < rows; t++) {
                if (rowsJoin(net, s, t, arity)) {
                    spare.join(place(net.nodes, what, s), place(net.nodes, what, t));
                }
            }
        }
        finder.freely(spare, net);
        for (int s = 0; s < rows; s++) {
            finder.may[place(net.nodes, what, s)] &= mayBe(net, what, s);
        }
    }

    private static int powerRows(int nodes, int arity) {
        return arity == 3 ? nodes * nodes * nodes : nodes * nodes;
    }

    private static boolean rowsJoin(Net net, int s, int t, int arity) {
        for (int i = 0; i < arity; i++) {
            if (!net.joins(digit(s, net.nodes, i), digit(t, net.nodes, i))) {
                return false;
            }
        }
        return true;
    }

    /** The place of a row in a table: fair operations have one for (x, y) and (y, x). */
    private static int place(int nodes, int what, int row) {
        if (what != FAIR) {
            return row;
        }
        int x = digit(row, nodes, 1);
        int y = digit(row, nodes, 0);
        int low = Math.min(x, y);
        return low * nodes - low * (low + 1) / 2 + Math.max(x, y);
    }

    private static int mayBe(Net net, int what, int row) {
        if (what == ALL_OPERATIONS) {
            return net.all();
        }
        int z = digit(row, net.nodes, 0);
        int y = digit(row, net.nodes, 1);
        int x = digit(row, net.nodes, 2);
        if (y == z || what == MAJORITY && x == z) {
            return 1 << z;
        }
        return what == MAJORITY && x == y ? 1 << y : net.all();
    }

    public int duality(int x, int d, int n, boolean first) {
        return triedOnSmall(DUAL, x, d, n, first);
    }

    public int between(int d, int e, int n, boolean first) {
        return triedOnSmall(BETWEEN, d, e, n, first);
    }

    public int unlike(int d, int e, int n, boolean first) {
        return triedOnSmall(UNLIKE, d, e, n, first);
    }

    /** How many networks of n nodes a trial meets, or the first of them. */
    private int triedOnSmall(int trial, int d, int e, int n, boolean first) {
        if (noDrawer(d) || noDrawer(e) || n < 1 || n > SMALL) {
            return NONE;
        }
        if (in(d).isEmpty() || in(e).isEmpty()) {
            return EMPTY;
        }
        int met = 0;
        for (int number = 0; number < (1 << n * n); number++) {
            spare.number(n, number);
            if (meets(trial, in(d), in(e))) {
                if (first) {
                    return number;
                }
                met++;
            }
        }
        return first ? LACKING : met;
    }

    private boolean meets(int trial, Net one, Net two) {
        switch (trial) {
            case DUAL:
                return fitsInto(one, spare) == fitsInto(spare, two);
            case BETWEEN:
                return fitsInto(one, spare) && fitsInto(spare, two)
                        && !fitsInto(spare, one) && !fitsInto(two, spare);
            default:
                return mapsInto(spare, one) != mapsInto(spare, two);
        }
    }

    private int mapsInto(Net g, Net h) {
        finder.freely(g, h);
        return finder.howMany();
    }

    public int colours(int d, int q) {
        if (noDrawer(d) || q < 1 || q > NODES) {
            return NONE;
        }
        if (in(d).isEmpty()) {
            return EMPTY;
        }
        spare.begin(q);
        for (int a = 0; a < q; a++) {
            for (int b = 0; b < q; b++) {
                if (a != b) {
                    spare.join(a, b);
                }
            }
        }
        return mapsInto(in(d), spare);
    }

    public int levels(int d) {
        if (noDrawer(d)) {
            return NONE;
        }
        if (in(d).isEmpty()) {
            return EMPTY;
        }
        for (int k = 0; k < NODES; k++) {
            spare.begin(k + 1);
            for (int i = 0; i < k; i++) {
                spare.join(i, i + 1);
            }
            if (fitsInto(in(d), spare)) {
                return k;
            }
        }
        return LACKING;
    }

    public int folded(int d, int what) {
        if (noDrawer(d) || what < 0 || what > 1) {
            return NONE;
        }
        Net net = in(d);
        if (net.isEmpty()) {
            return EMPTY;
        }
        int there = net.all();
        for (int round = 1; round < net.nodes; round++) {
            there &= ~lowestFold(net, there);
        }
        return what == 0 ? there : Integer.bitCount(there);
    }

    /** The lowest node (as a bit) that another one stands for, 0 if there is none. */
    private static int lowestFold(Net net, int there) {
        for (int a = 0; a < net.nodes; a++) {
            for (int b = 0; b < net.nodes; b++) {
                if (a != b && has(there, a) && has(there, b)
                        && (net.to[a] & there & ~net.to[b]) == 0
                        && (net.from[a] & there & ~net.from[b]) == 0) {
                    return 1 << a;
                }
            }
        }
        return 0;
    }

    public int orbit(int d, int a) {
        if (noNode(d, a)) {
            return NONE;
        }
        Net net = in(d);
        if (net.isEmpty()) {
            return EMPTY;
        }
        int orbit = 0;
        for (int b = 0; b < net.nodes; b++) {
            finder.freely(net, net);
            finder.bound(net.nodes, NODES);
            finder.may[a] &= 1 << b;
            if (finder.finds()) {
                orbit |= 1 << b;
            }
        }
        return orbit;
    }

    public int ways(int d, int a, int b, int k) {
        if (noNode(d, a) || noNode(d, b) || k < 0 || k > LONGEST_WAY) {
            return NONE;
        }
        Net net = in(d);
        if (net.isEmpty()) {
            return EMPTY;
        }
        int[] here = target;
        int[] next = other;
        for (int x = 0; x < net.nodes; x++) {
            here[x] = x == a ? 1 : 0;
        }
        for (int step = 0; step < k; step++) {
            for (int y = 0; y < net.nodes; y++) {
                next[y] = sumOver(net, net.from[y], here);
            }
            int[] last = here;
            here = next;
            next = last;
        }
        return here[b];
    }

    private static int sumOver(Net net, int some, int[] numbers) {
        int sum = 0;
        for (int x = 0; x < net.nodes && x < numbers.length; x++) {
            if (has(some, x)) {
                sum += numbers[x];
            }
        }
        return sum;
    }

    public int letter(int d, int k) {
        if (noDrawer(d) || k < NONE) {
            return NONE;
        }
        if (in(d).isEmpty()) {
            return EMPTY;
        }
        int length = in(d).write(letters);
        if (k == NONE) {
            return length;
        }
        return k < length ? letters[k] : BEYOND;
    }

    // ---- kept

    public int count(int what) {
        if (what == 0) {
            return fullDrawers();
        }
        if (what == 1) {
            return fed;
        }
        if (what == 2) {
            return kept;
        }
        if (what >= 10 && what < 10 + NODES) {
            return now.lists[what - 10];
        }
        if (what >= 20 && what < 20 + NODES) {
            return now.weights[what - 20];
        }
        return NONE;
    }

    private int fullDrawers() {
        int full = 0;
        for (int d = 0; d < DRAWERS; d++) {
            if (!in(d).isEmpty()) {
                full |= 1 << d;
            }
        }
        return full;
    }

    public int keep() {
        if (kept >= STATES) {
            return NONE;
        }
        states[kept].like(now);
        kept++;
        return kept;
    }

    public int undo() {
        if (kept < 1) {
            return NONE;
        }
        kept--;
        now.like(states[kept]);
        return kept;
    }

    // ---- what all calls ask

    private static boolean noDrawer(int d) {
        return d < 0 || d >= DRAWERS;
    }

    /** Of an empty drawer every node number of any network may be asked. */
    private boolean noNode(int d, int a) {
        if (noDrawer(d) || a < 0) {
            return true;
        }
        return a >= (in(d).isEmpty() ? NODES : in(d).nodes);
    }

    private Net in(int d) {
        return now.drawers[d];
    }

    /** The spare network comes into a drawer: how many lines it has. */
    private int settle(int d) {
        in(d).like(spare);
        return spare.lines();
    }

    private static boolean has(int some, int a) {
        return (some >> a & 1) != 0;
    }

    /** A network, or none (no nodes); rows of bits, so that a set of nodes is one int. */
    private static final class Net {
        int nodes;
        // Rows at and behind the number of nodes count for nothing.
        final int[] to = new int[PLACES];
        final int[] from = new int[PLACES];

        void begin(int n) {
            nodes = n;
            for (int a = 0; a < PLACES; a++) {
                to[a] = 0;
                from[a] = 0;
            }
        }

        void like(Net net) {
            nodes = net.nodes;
            for (int a = 0; a < PLACES; a++) {
                to[a] = net.to[a];
                from[a] = net.from[a];
            }
        }

        /** The network of n nodes that has this number. */
        void number(int n, int number) {
            begin(n);
            for (int a = 0; a < n; a++) {
                for (int b = 0; b < n; b++) {
                    if (has(number, a * n + b)) {
                        join(a, b);
                    }
                }
            }
        }

        boolean isEmpty() {
            return nodes < 1;
        }

        int all() {
            return (1 << nodes) - 1;
        }

        boolean joins(int a, int b) {
            return has(to[a], b);
        }

        void join(int a, int b) {
            to[a] |= 1 << b;
            from[b] |= 1 << a;
        }

        void sever(int a, int b) {
            to[a] &= ~(1 << b);
            from[b] &= ~(1 << a);
        }

        int lines() {
            int lines = 0;
            for (int a = 0; a < nodes; a++) {
                lines += Integer.bitCount(to[a]);
            }
            return lines;
        }

        int loops() {
            int loops = 0;
            for (int a = 0; a < nodes; a++) {
                loops |= to[a] & 1 << a;
            }
            return loops;
        }

        boolean isTwoWay() {
            for (int a = 0; a < nodes; a++) {
                if (to[a] != from[a]) {
                    return false;
                }
            }
            return true;
        }

        int most(boolean going) {
            int most = 0;
            for (int a = 0; a < nodes; a++) {
                most = Math.max(most, Integer.bitCount(going ? to[a] : from[a]));
            }
            return most;
        }

        int pieces() {
            int seen = 0;
            int pieces = 0;
            for (int a = 0; a < nodes; a++) {
                if (!has(seen, a)) {
                    seen |= piece(a);
                    pieces++;
                }
            }
            return pieces;
        }

        int piece(int a) {
            int piece = 1 << a;
            for (int round = 1; round < nodes; round++) {
                piece |= onward(piece) | backward(piece);
            }
            return piece;
        }

        int onward(int some) {
            int onward = 0;
            for (int a = 0; a < nodes; a++) {
                if (has(some, a)) {
                    onward |= to[a];
                }
            }
            return onward;
        }

        int backward(int some) {
            int backward = 0;
            for (int a = 0; a < nodes; a++) {
                if (has(some, a)) {
                    backward |= from[a];
                }
            }
            return backward;
        }

        /** The nodes to which a way of at least one line leads. */
        int ahead(int a) {
            int ahead = to[a];
            for (int round = 1; round < nodes; round++) {
                ahead |= onward(ahead);
            }
            return ahead;
        }

        int onRings() {
            int on = 0;
            for (int a = 0; a < nodes; a++) {
                on |= ahead(a) & 1 << a;
            }
            return on;
        }

        int shortestRing() {
            int shortest = 0;
            for (int a = 0; a < nodes; a++) {
                int ring = ringAt(a);
                if (ring > 0 && (shortest == 0 || ring < shortest)) {
                    shortest = ring;
                }
            }
            return shortest;
        }

        int ringAt(int a) {
            int some = 1 << a;
            for (int length = 1; length <= nodes; length++) {
                some = onward(some);
                if (has(some, a)) {
                    return length;
                }
            }
            return 0;
        }

        /** Writes the text without blanks: how many signs it has. */
        int write(int[] text) {
            int length = sign(text, 0, '0' + nodes);
            length = sign(text, length, ':');
            for (int a = 0; a < nodes; a++) {
                for (int b = 0; b < nodes; b++) {
                    boolean both = a != b && joins(b, a);
                    if (joins(a, b) && !(both && a > b)) {
                        length = sign(text, length, '0' + a);
                        length = sign(text, length, both ? '-' : '>');
                        length = sign(text, length, '0' + b);
                    }
                }
            }
            return length;
        }

        private static int sign(int[] text, int length, int sign) {
            if (length < 0 || length >= text.length) {
                return length;
            }
            text[length] = sign;
            return length + 1;
        }
    }

    /** What is kept and undone. */
    private static final class State {
        final Net[] drawers = new Net[DRAWERS];
        final int[] lists = new int[NODES];
        final int[] weights = new int[NODES];

        State() {
            for (int d = 0; d < DRAWERS; d++) {
                drawers[d] = new Net();
            }
            for (int a = 0; a < NODES; a++) {
                lists[a] = ALL;
            }
        }

        void like(State state) {
            for (int d = 0; d < DRAWERS; d++) {
                drawers[d].like(state.drawers[d]);
            }
            for (int a = 0; a < NODES; a++) {
                lists[a] = state.lists[a];
                weights[a] = state.weights[a];
            }
        }
    }

    /** Reads a text sign by sign. */
    private static final class Reader {
        static final int MISPLACED = 1;
        static final int UNKNOWN = 2;
        static final int TWICE = 3;

        static final int AT_NODES = 0;
        static final int AT_COLON = 1;
        static final int AT_FIRST = 2;
        static final int AT_WAY = 3;
        static final int AT_SECOND = 4;

        final Net told = new Net();
        int at;
        int first;
        boolean both;

        void start() {
            told.begin(0);
            at = AT_NODES;
        }

        /** A text may end where a line could begin. */
        boolean mayEnd() {
            return at == AT_FIRST;
        }

        /** The fault of the next sign, 0 if it has none. */
        int faultOf(int sign) {
            if (sign == ' ') {
                return 0;
            }
            switch (at) {
                case AT_NODES:
                    return readNodes(sign);
                case AT_COLON:
                    at = AT_FIRST;
                    return sign == ':' ? 0 : MISPLACED;
                case AT_FIRST:
                    first = sign - '0';
                    at = AT_WAY;
                    return nodeFault(sign);
                case AT_WAY:
                    both = sign == '-';
                    at = AT_SECOND;
                    return both || sign == '>' ? 0 : MISPLACED;
                default:
                    return readSecond(sign);
            }
        }

        int readNodes(int sign) {
            if (!isDigit(sign)) {
                return MISPLACED;
            }
            int n = sign - '0';
            if (n < 1 || n > NODES) {
                return UNKNOWN;
            }
            told.begin(n);
            at = AT_COLON;
            return 0;
        }

        int readSecond(int sign) {
            int fault = nodeFault(sign);
            if (fault != 0) {
                return fault;
            }
            int second = sign - '0';
            if (told.joins(first, second) && (!both || told.joins(second, first))) {
                return TWICE;
            }
            told.join(first, second);
            if (both) {
                told.join(second, first);
            }
            at = AT_FIRST;
            return 0;
        }

        int nodeFault(int sign) {
            if (!isDigit(sign)) {
                return MISPLACED;
            }
            return sign - '0' < told.nodes ? 0 : UNKNOWN;
        }

        static boolean isDigit(int sign) {
            return sign >= '0' && sign <= '9';
        }
    }

    /** Looks for maps of g into h, node by node. */
    private static final class Search {
        Net g = new Net();
        Net h = g;
        final int[] may = new int[PLACES];
        final int[] image = new int[PLACES];
        int tries;
        // How many nodes of h are to be reached; bounded: whether that leaves any map out.
        int fewest;
        int most;
        boolean bounded;
        boolean retracting;

        void freely(Net from, Net into) {
            g = from;
            h = into;
            retracting = false;
            bound(0, NODES);
            int loops = h.loops();
            for (int a = 0; a < g.nodes; a++) {
                may[a] = g.joins(a, a) ? loops : h.all();
            }
        }

        void byLists(Net from, Net into, int[] lists) {
            freely(from, into);
            for (int a = 0; a < g.nodes && a < lists.length; a++) {
                may[a] &= lists[a];
            }
        }

        void byRetraction(Net net) {
            freely(net, net);
            retracting = true;
        }

        void bound(int least, int greatest) {
            fewest = least;
            most = greatest;
            bounded = fewest > 1 || most < h.nodes;
        }

        /**
         * What node a may become by its list and its lines to and from those ahead; of retractions
         * what is reached stays where it is, and what does not stay is not reached.
         */
        int choices(int a, int reached) {
            int some = may[a];
            int to = g.to[a];
            int from = g.from[a];
            for (int b = 0; b < a; b++) {
                if (has(to, b)) {
                    some &= h.from[image[b]];
                }
                if (has(from, b)) {
                    some &= h.to[image[b]];
                }
                if (retracting && image[b] != b) {
                    some &= ~(1 << b);
                }
            }
            return retracting && has(reached, a) ? some & 1 << a : some;
        }

        /** Whether the bounds can still be kept when node a and those ahead have reached these. */
        boolean inBounds(int a, int reached) {
            if (!bounded) {
                return true;
            }
            int size = Integer.bitCount(reached);
            return size <= most && size + g.nodes - 1 - a >= fewest;
        }

        boolean finds() {
            tries = 0;
            return findsFrom(this, 0, 0);
        }

        private static boolean findsFrom(Search s, int a, int reached) {
            if (a >= s.g.nodes) {
                return true;
            }
            int some = s.choices(a, reached);
            for (int x = 0; x < s.h.nodes; x++) {
                int then = reached | 1 << x;
                if (has(some, x) && s.inBounds(a, then)) {
                    s.image[a] = x;
                    s.tries++;
                    if (findsFrom(s, a + 1, then)) {
                        return true;
                    }
                }
            }
            return false;
        }

        int howMany() {
            return manyFrom(this, 0, 0);
        }

        private static int manyFrom(Search s, int a, int reached) {
            if (a >= s.g.nodes) {
                return 1;
            }
            int some = s.choices(a, reached);
            // What no later node asks after needs no trying out.
            if (s.isUnasked(a)) {
                return some == 0 ? 0 : Integer.bitCount(some) * manyFrom(s, a + 1, reached);
            }
            int many = 0;
            for (int x = 0; x < s.h.nodes; x++) {
                int then = reached | 1 << x;
                if (has(some, x) && s.inBounds(a, then)) {
                    s.image[a] = x;
                    many += manyFrom(s, a + 1, then);
                }
            }
            return many;
        }

        boolean isUnasked(int a) {
            return !bounded && !retracting && (g.to[a] | g.from[a]) >> a >> 1 == 0;
        }

        int howManyReachLines() {
            return reachingFrom(this, 0, 0);
        }

        private static int reachingFrom(Search s, int a, int reached) {
            if (a >= s.g.nodes) {
                return s.reachesLines() ? 1 : 0;
            }
            int some = s.choices(a, reached);
            int many = 0;
            for (int x = 0; x < s.h.nodes; x++) {
                int then = reached | 1 << x;
                if (has(some, x) && s.inBounds(a, then)) {
                    s.image[a] = x;
                    many += reachingFrom(s, a + 1, then);
                }
            }
            return many;
        }

        boolean reachesLines() {
            for (int x = 0; x < h.nodes; x++) {
                int reached = 0;
                for (int a = 0; a < g.nodes; a++) {
                    if (image[a] == x) {
                        reached |= imagesOf(g.to[a]);
                    }
                }
                if (reached != h.to[x]) {
                    return false;
                }
            }
            return true;
        }

        int imagesOf(int some) {
            int images = 0;
            for (int a = 0; a < g.nodes; a++) {
                if (has(some, a)) {
                    images |= 1 << image[a];
                }
            }
            return images;
        }

        /** Makes map k the image; false if there are not so many. */
        boolean pick(int k) {
            int rest = k;
            int reached = 0;
            for (int a = 0; a < g.nodes; a++) {
                int some = choices(a, reached);
                boolean found = false;
                for (int x = 0; x < h.nodes && !found; x++) {
                    if (has(some, x)) {
                        image[a] = x;
                        int many = manyFrom(this, a + 1, reached | 1 << x);
                        found = rest < many;
                        rest -= found ? 0 : many;
                    }
                }
                if (!found) {
                    return false;
                }
                reached |= 1 << image[a];
            }
            return true;
        }

        /** How many maps come ahead of one, whatever they reach. */
        int numberOf(int[] map) {
            int number = 0;
            bound(0, NODES);
            for (int a = 0; a < g.nodes && a < map.length; a++) {
                int some = choices(a, 0);
                for (int x = 0; x < map[a]; x++) {
                    if (has(some, x)) {
                        image[a] = x;
                        number += manyFrom(this, a + 1, 0);
                    }
                }
                image[a] = map[a];
            }
            return number;
        }

        /** Takes out of the lists what has no line to go by. */
        void narrow() {
            boolean changed = true;
            // Each round but the last takes out one of at most 49.
            for (int round = 0; round <= NODES * NODES && changed; round++) {
                changed = false;
                for (int a = 0; a < g.nodes; a++) {
                    int backed = backed(a);
                    changed |= backed != may[a];
                    may[a] = backed;
                }
            }
        }

        int backed(int a) {
            int some = may[a];
            for (int x = 0; x < h.nodes; x++) {
                for (int b = 0; b < g.nodes; b++) {
                    if (g.joins(a, b) && (h.to[x] & may[b]) == 0
                            || g.joins(b, a) && (h.from[x] & may[b]) == 0) {
                        some &= ~(1 << x);
                    }
                }
            }
            return some;
        }
    }

    /** The lightest or heaviest maps; rows by node: what those behind it come to. */
    private static final class Scale {
        final int[] best = new int[NODES + 1];
        final int[] alike = new int[NODES + 1];
        final int[] first = new int[NODES + 1];
        final int[] weights = new int[NODES];
        boolean least;

        /** How many maps there are; row 0 then tells of the best ones. */
        int weighAll(Search s, int[] weightOf, boolean lightest) {
            for (int x = 0; x < NODES && x < weightOf.length; x++) {
                weights[x] = weightOf[x];
            }
            least = lightest;
            return weighFrom(this, s, 0);
        }

        private static int weighFrom(Scale c, Search s, int a) {
            if (a >= s.g.nodes || a >= NODES) {
                c.settle(a);
                return 1;
            }
            c.alike[a] = 0;
            int some = s.choices(a, 0);
            boolean unasked = s.isUnasked(a);
            boolean weighed = false;
            int many = 0;
            int behind = 0;
            for (int x = 0; x < s.h.nodes && x < NODES; x++) {
                if (has(some, x)) {
                    s.image[a] = x;
                    // What is behind an unasked node is weighed once for all it may become.
                    if (!unasked || !weighed) {
                        behind = weighFrom(c, s, a + 1);
                        weighed = true;
                    }
                    if (behind > 0) {
                        c.compare(a, x, many);
                    }
                    many += behind;
                }
            }
            return many;
        }

        void settle(int a) {
            best[a] = 0;
            alike[a] = 1;
            first[a] = 0;
        }

        /** Node a becomes x, behind so many maps: are those then better, or alike? */
        void compare(int a, int x, int ahead) {
            int weight = weights[x] + best[a + 1];
            boolean better = least ? weight < best[a] : weight > best[a];
            if (alike[a] == 0 || better) {
                best[a] = weight;
                alike[a] = alike[a + 1];
                first[a] = ahead + first[a + 1];
            } else if (weight == best[a]) {
                alike[a] += alike[a + 1];
            }
        }
    }

    /** All maps by their numbers, each as one int of three bits a node, so that they rise as the maps do. */
    private static final class Crowd {
        int size;
        int nodes;
        int values;
        final int[] codes = new int[CROWD];
        final int[] steps = new int[CROWD];
        final int[] queue = new int[CROWD];
        int queued;

        void gatherAll(Search s, int many) {
            size = 0;
            nodes = s.g.nodes;
            values = s.h.nodes;
            if (many > 0) {
                gatherFrom(this, s, 0, 0);
            }
            for (int i = 0; i < CROWD; i++) {
                steps[i] = -1;
            }
        }

        private static void gatherFrom(Crowd c, Search s, int a, int code) {
            if (a >= s.g.nodes) {
                if (c.size < CROWD) {
                    c.codes[c.size] = code;
                    c.size++;
                }
                return;
            }
            int some = s.choices(a, 0);
            for (int x = 0; x < s.h.nodes; x++) {
                if (has(some, x)) {
                    s.image[a] = x;
                    gatherFrom(c, s, a + 1, code << 3 | x);
                }
            }
        }

        /** The map beside map i by which the node of this place becomes x; -1 if there is none. */
        int beside(int i, int place, int x) {
            int shift = 3 * place;
            int was = codes[i] >> shift & 7;
            return was == x ? -1 : indexOf(codes[i] + (x - was << shift));
        }

        int indexOf(int code) {
            int at = -1;
            for (int leap = 1024; leap > 0; leap >>= 1) {
                if (at + leap < size && codes[at + leap] <= code) {
                    at += leap;
                }
            }
            return at >= 0 && codes[at] == code ? at : -1;
        }

        int besides(int i) {
            int besides = 0;
            for (int place = 0; place < nodes; place++) {
                for (int x = 0; x < values; x++) {
                    if (beside(i, place, x) >= 0) {
                        besides++;
                    }
                }
            }
            return besides;
        }

        int frozen() {
            int frozen = 0;
            for (int i = 0; i < size; i++) {
                if (besides(i) == 0) {
                    frozen++;
                }
            }
            return frozen;
        }

        int twos() {
            int ends = 0;
            for (int i = 0; i < size; i++) {
                ends += besides(i);
            }
            return ends / 2;
        }

        /** How many parts hang together, or how many maps the greatest has. */
        int parts(boolean greatest) {
            int parts = 0;
            int great = 0;
            for (int i = 0; i < size; i++) {
                if (steps[i] < 0) {
                    parts++;
                    great = Math.max(great, spread(i));
                }
            }
            return greatest ? great : parts;
        }

        /** Tells the steps from a map to all that hang together with it: how many. */
        int spread(int from) {
            queued = 0;
            enqueue(from, 0);
            for (int at = 0; at < size && at < queued; at++) {
                int i = queue[at];
                for (int place = 0; place < nodes; place++) {
                    for (int x = 0; x < values; x++) {
                        enqueue(beside(i, place, x), steps[i] + 1);
                    }
                }
            }
            return queued;
        }

        void enqueue(int i, int far) {
            if (i >= 0 && i < size && steps[i] < 0 && queued < CROWD) {
                steps[i] = far;
                queue[queued] = i;
                queued++;
            }
        }
    }
}

/** Boundary cases of promises 31 to 41: operations, dualities, colours, levels, ways and letters. */
public final class BoundsOfOperationsTest extends Bounds {
    public static void main(String[] args) {
        promise31();
        promise31Refused();
        promise32();
        promise32Last();
        promise32Refused();
        promise33();
        promise34();
        promise35();
        promise36();
        promise37();
        promise38();
        promise39();
        promise40();
        promise40Refused();
        promise41();
        promise41Refused();
        end(31, 41);
    }

    /** Networks of one to four nodes without lines in drawers 0 to 3, three nodes with all lines in 4. */
    private static NetMaps small() {
        NetMaps x = with("1:", "2:", "3:", "4:", "3:0-0 0-1 0-2 1-1 1-2 2-2");
        x.list(0, 0);
        return x;
    }

    private static void promise31() {
        test(31, "what 0 all, 1 IDLE, 2 FAIR ones; OF THREE by the MAJORITY: 3: how many");
        int[][] want = {{1, 1, 1, 1}, {16, 4, 2, 1}, {19683, 729, 27, 729}};
        for (int n = 1; n <= 3; n++) {
            NetMaps x = new NetMaps();
            x.put(0, n);
            x.put(1, n);
            x.change(1, 2);
            x.change(1, 3);
            for (int what = 0; what <= 3; what++) {
                due("no lines, operations(0, " + what + ")", x.operations(0, what), want[n - 1][what]);
                due("all lines, operations(1, " + what + ")", x.operations(1, what), want[n - 1][what]);
            }
        }
        // The nine twos of the ring are three rings, (0, 0) on, (0, 1) on and (1, 0) on: each may begin anywhere.
        int[][] others = {{4, 2, 0, 1}, {12, 2, 0, 0}, {27, 9, 3, 9}};
        NetMaps x = with(K2, K3, RING3);
        for (int d = 0; d < 3; d++) {
            for (int what = 0; what <= 3; what++) {
                due("operations(" + d + ", " + what + ")", x.operations(d, what), others[d][what]);
            }
        }
        test(31, "MAPS are those by LISTS, where LISTS are said");
        for (int what = 0; what <= 3; what++) {
            int told = what;
            int[] k2 = others[0];
            stays(Bounds::listless, "operations(0, " + what + ")", y -> y.operations(0, told), k2[what]);
        }
    }

    private static void promise31Refused() {
        test(31, "-3: more than 3 NODES");
        for (int what = 0; what <= 3; what++) {
            int told = what;
            int three = new int[] {19683, 729, 27, 729}[what];
            stays(BoundsOfOperationsTest::small, "operations(2, " + what + ")", x -> x.operations(2, told), three);
            stays(BoundsOfOperationsTest::small, "operations(3, " + what + ")", x -> x.operations(3, told), -3);
            stays(Bounds::rich, "operations(3, " + what + ") of seven", x -> x.operations(3, told), -3);
        }
        test(31, "-2: empty");
        asksAtEnds(Bounds::rich, "operations(5, #)", 0, 3, (x, what) -> x.operations(5, what), EMPTY);
        test(31, "NONE: no such ones");
        refusesOutside(Bounds::rich, "operations(0, #)", 0, 3, (x, what) -> x.operations(0, what), NONE);
        refusesOutside(Bounds::rich, "operations(#, 0)", 0, 5, (x, d) -> x.operations(d, 0), NONE);
        test(31, "Of several reasons NONE comes first, then -2, and so on");
        refusesOutside(Bounds::rich, "operations(3, #)", 0, 3, (x, what) -> x.operations(3, what), NONE);
        refusesOutside(Bounds::rich, "operations(5, #)", 0, 3, (x, what) -> x.operations(5, what), NONE);
    }

    private static void promise32() {
        test(32, "Numbered from 0 on, rising by f(0, 0), f(0, 1), .. (the last place fastest)");
        NetMaps x = small();
        int[] numbers = {0, 1, 3, 6561, 9841, 19682};
        for (int k : numbers) {
            int rest = k;
            for (int place = 8; place >= 0; place--) {
                due("operation(2, 0, " + k + ", ..)", x.operation(2, 0, k, place / 3, place % 3, 0), rest % 3);
                rest /= 3;
            }
        }
        test(32, "IDLE: f(x, x) is x. FAIR: IDLE, and f(x, y) is f(y, x)");
        NetMaps fair = small();
        for (int k = 0; k < 27; k++) {
            int[] digits = {k / 9, k / 3 % 3, k % 3};
            for (int a = 0; a < 3; a++) {
                due("f(" + a + ", " + a + ") of " + k, fair.operation(4, 2, k, a, a, 0), a);
                int b = a == 2 ? 1 : 0;
                int c = a == 0 ? 1 : 2;
                due("f(" + b + ", " + c + ") of " + k, fair.operation(4, 2, k, b, c, 0), digits[a]);
                due("f(" + c + ", " + b + ") of " + k, fair.operation(4, 2, k, c, b, 0), digits[a]);
            }
        }
        for (int a = 0; a < 3; a++) {
            due("the first idle one", fair.operation(4, 1, 0, a, a, 0), a);
            due("the last idle one", fair.operation(4, 1, 728, a, a, 0), a);
            due("the first idle one", fair.operation(4, 1, 0, a, (a + 1) % 3, 0), 0);
            due("the last idle one", fair.operation(4, 1, 728, a, (a + 1) % 3, 0), 2);
        }
        test(32, "by the MAJORITY: what two of the three are is the NODE");
        NetMaps three = small();
        for (int a = 0; a < 3; a++) {
            for (int b = 0; b < 3; b++) {
                for (int k : new int[] {0, 728}) {
                    due("two ahead", three.operation(2, 3, k, a, a, b), a);
                    due("two outside", three.operation(2, 3, k, a, b, a), a);
                    due("two behind", three.operation(2, 3, k, b, a, a), a);
                }
                if (a != b) {
                    due("all unlike, the first", three.operation(4, 3, 0, a, b, 3 - a - b), 0);
                    due("all unlike, the last", three.operation(4, 3, 728, a, b, 3 - a - b), 2);
                }
            }
        }
        due("the slowest place", three.operation(2, 3, 243, 0, 1, 2), 1);
        due("the fastest place", three.operation(2, 3, 1, 2, 1, 0), 1);
        due("the fastest but one", three.operation(2, 3, 3, 2, 0, 1), 1);
        due("and no other", three.operation(2, 3, 1, 2, 0, 1), 0);
    }

    private static void promise32Last() {
        test(32, "-4: not so many");
        int[][] many = {{1, 1, 1, 1}, {16, 4, 2, 1}, {19683, 729, 27, 729}};
        for (int d = 0; d < 3; d++) {
            for (int what = 0; what <= 3; what++) {
                int drawer = d;
                int told = what;
                int all = many[d][what];
                String call = "operation(" + d + ", " + what + ", ";
                boolean pair = d > 0 && (what == 0 || what == 1 && d == 2);
                due(call + (all - 1) + ", 0, 0, 0)", small().operation(d, what, all - 1, 0, 0, 0), what == 0 ? d : 0);
                due(call + (all - 1) + ", 0, " + d + ", 0)", small().operation(d, what, all - 1, 0, d, 0),
                        pair || what == 1 || what == 2 ? d : 0);
                stays(BoundsOfOperationsTest::small, call + all + ", 0, 0, 0)",
                        x -> x.operation(drawer, told, all, 0, 0, 0), -4);
                stays(BoundsOfOperationsTest::small, call + "MAX, 0, 0, 0)",
                        x -> x.operation(drawer, told, GREATEST, 0, 0, 0), -4);
            }
        }
        stays(Bounds::rich, "operation(0, 2, 0, 0, 0, 0), none is fair", x -> x.operation(0, 2, 0, 0, 0, 0), -4);
        stays(Bounds::rich, "operation(1, 3, 0, 0, 0, 0), no majority", x -> x.operation(1, 3, 0, 0, 0, 0), -4);
        test(32, "(z counts there alone)");
        for (int z : new int[] {LEAST, -1, 0, 1, 2, 6, 7, GREATEST}) {
            for (int what = 0; what <= 2; what++) {
                int told = what;
                stays(BoundsOfOperationsTest::small, "operation(1, " + what + ", 0, 1, 0, " + z + ")",
                        x -> x.operation(1, told, 0, 1, 0, z), 0);
                stays(BoundsOfOperationsTest::small, "operation(1, " + what + ", 0, 1, 1, " + z + ")",
                        x -> x.operation(1, told, 0, 1, 1, z), what == 0 ? 0 : 1);
                stays(Bounds::rich, "operation(5, " + what + ", 0, 6, 6, " + z + ")",
                        x -> x.operation(5, told, 0, 6, 6, z), EMPTY);
                stays(Bounds::rich, "operation(3, " + what + ", 0, 6, 6, " + z + ")",
                        x -> x.operation(3, told, 0, 6, 6, z), -3);
            }
        }
    }

    private static void promise32Refused() {
        test(32, "NONE: no such ones (k below 0, NODES)");
        for (int k : new int[] {-1, LEAST}) {
            stays(Bounds::rich, "operation(0, 0, " + k + ", 0, 0, 0)", x -> x.operation(0, 0, k, 0, 0, 0), NONE);
            stays(Bounds::rich, "operation(3, 0, " + k + ", 0, 0, 0)", x -> x.operation(3, 0, k, 0, 0, 0), NONE);
            stays(Bounds::rich, "operation(5, 0, " + k + ", 0, 0, 0)", x -> x.operation(5, 0, k, 0, 0, 0), NONE);
        }
        refusesOutside(Bounds::rich, "operation(#, ..)", 0, 5, (x, d) -> x.operation(d, 0, 0, 0, 0, 0), NONE);
        refusesOutside(Bounds::rich, "operation(0, #, ..)", 0, 3, (x, what) -> x.operation(0, what, 0, 0, 0, 0), NONE);
        for (int what = 0; what <= 3; what++) {
            int told = what;
            refusesOutside(Bounds::rich, "x is #", 0, 1, (x, a) -> x.operation(0, told, 0, a, 0, 0), NONE);
            refusesOutside(Bounds::rich, "y is #", 0, 1, (x, a) -> x.operation(0, told, 0, 0, a, 0), NONE);
            refusesOutside(Bounds::rich, "x is #, empty", 0, 6, (x, a) -> x.operation(5, told, 0, a, 0, 0), NONE);
            refusesOutside(Bounds::rich, "y is #, empty", 0, 6, (x, a) -> x.operation(5, told, 0, 0, a, 0), NONE);
            refusesOutside(Bounds::rich, "x is #, of seven", 0, 6, (x, a) -> x.operation(3, told, 0, a, 0, 0), NONE);
            refusesOutside(Bounds::rich, "y is #, of seven", 0, 6, (x, a) -> x.operation(3, told, 0, 0, a, 0), NONE);
        }
        refusesOutside(Bounds::rich, "z is #", 0, 1, (x, a) -> x.operation(0, 3, 0, 0, 0, a), NONE);
        refusesOutside(Bounds::rich, "z is #, empty", 0, 6, (x, a) -> x.operation(5, 3, 0, 0, 0, a), NONE);
        refusesOutside(Bounds::rich, "z is #, of seven", 0, 6, (x, a) -> x.operation(3, 3, 0, 0, 0, a), NONE);
        asksAtEnds(Bounds::rich, "z is #", 0, 1, (x, a) -> x.operation(0, 3, 0, 0, 1, a), 0, 1);
        test(32, "-2: empty");
        stays(Bounds::rich, "operation(5, 3, 0, 6, 6, 6)", x -> x.operation(5, 3, 0, 6, 6, 6), EMPTY);
        stays(Bounds::rich, "operation(5, 0, MAX, 0, 0, 0)", x -> x.operation(5, 0, GREATEST, 0, 0, 0), EMPTY);
        test(32, "-3: more than 3 NODES");
        stays(BoundsOfOperationsTest::small, "operation(3, 1, 0, 3, 3, 0)", x -> x.operation(3, 1, 0, 3, 3, 0), -3);
        stays(Bounds::rich, "operation(3, 3, 0, 6, 6, 6)", x -> x.operation(3, 3, 0, 6, 6, 6), -3);
        stays(Bounds::rich, "operation(3, 0, MAX, 0, 0, 0)", x -> x.operation(3, 0, GREATEST, 0, 0, 0), -3);
    }

    /** A call of two drawers that is tried on all networks of n nodes. */
    private interface Trial {
        int of(NetMaps x, int d, int e, int n, boolean first);
    }

    /** How many, and the number of the first, of networks of one, two, three nodes. */
    private static void dueTried(String name, World world, Trial trial, int d, int e, int[] many, int[] first) {
        for (int n = 1; n <= 3; n++) {
            int nodes = n;
            stays(world, name + ", n " + n + ", how many", x -> trial.of(x, d, e, nodes, false), many[n - 1]);
            stays(world, name + ", n " + n + ", the first", x -> trial.of(x, d, e, nodes, true), first[n - 1]);
        }
    }

    private static void triedRefused(int promise, String empty, String none, String call, Trial trial) {
        for (boolean first : new boolean[] {true, false}) {
            test(promise, empty);
            asksAtEnds(Bounds::rich, call + "(5, 0, #, ..)", 1, 3, (x, n) -> trial.of(x, 5, 0, n, first), EMPTY);
            asksAtEnds(Bounds::rich, call + "(0, 5, #, ..)", 1, 3, (x, n) -> trial.of(x, 0, 5, n, first), EMPTY);
            test(promise, none);
            refusesOutside(Bounds::rich, call + "(#, 0, 1, ..)", 0, 5, (x, d) -> trial.of(x, d, 0, 1, first), NONE);
            refusesOutside(Bounds::rich, call + "(0, #, 1, ..)", 0, 5, (x, e) -> trial.of(x, 0, e, 1, first), NONE);
            refusesOutside(Bounds::rich, call + "(0, 1, #, ..)", 1, 3, (x, n) -> trial.of(x, 0, 1, n, first), NONE);
            test(promise, "Of several reasons NONE comes first, then -2");
            refusesOutside(Bounds::rich, call + "(5, 0, #, ..)", 1, 3, (x, n) -> trial.of(x, 5, 0, n, first), NONE);
            refusesOutside(Bounds::rich, call + "(0, 5, #, ..)", 1, 3, (x, n) -> trial.of(x, 0, 5, n, first), NONE);
            refusesOutside(Bounds::rich, call + "(5, #, 1, ..)", 0, 5, (x, e) -> trial.of(x, 5, e, 1, first), NONE);
            refusesOutside(Bounds::rich, call + "(#, 5, 1, ..)", 0, 5, (x, d) -> trial.of(x, d, 5, 1, first), NONE);
        }
    }

    private static NetMaps tried() {
        NetMaps x = with(LOOP, ONE, K2, "2:0>1", K3, "2:0-0 0-1 1-1");
        x.list(0, 0);
        return x;
    }

    private static void promise33() {
        World world = BoundsOfOperationsTest::tried;
        Trial trial = NetMaps::duality;
        int[] no = {0, 0, 0};
        int[] none = {-4, -4, -4};
        test(33, "At how many NETWORKS of n NODES the DUALITY of x and d FAILS (first false)");
        dueTried("both hold of all", world, trial, 1, 0, new int[] {2, 16, 512}, new int[] {0, 0, 0});
        dueTried("a line, no line", world, trial, 3, 1, no, none);
        dueTried("a loop, three colours", world, trial, 0, 4, no, none);
        test(33, "the number of the first of these (-4: none)");
        dueTried("a loop twice: what has one", world, trial, 0, 0, new int[] {1, 12, 448}, new int[] {1, 1, 1});
        dueTried("a loop, no line", world, trial, 0, 1, new int[] {0, 3, 63}, new int[] {-4, 2, 2});
        // Neither of what has no loop, but a line one way or both between each two; 0>1 0>2 1>2 is the number 38.
        dueTried("a loop, two colours", world, trial, 0, 2, new int[] {0, 0, 27}, new int[] {-4, -4, 38});
        triedRefused(33, "-2: one is empty", "NONE: no such ones", "duality", trial);
    }

    private static void promise34() {
        test(34, "COLOURED by q, how many");
        for (int n = 1; n <= 7; n++) {
            NetMaps x = new NetMaps();
            x.put(0, n);
            x.put(1, n);
            x.change(1, 2);
            told(x, 2, "7:0>0");
            x.list(0, 0);
            for (int q = 1; q <= 7; q++) {
                int bare = 1;
                int all = 1;
                for (int a = 0; a < n; a++) {
                    bare *= q;
                    all *= Math.max(0, q - a);
                }
                due("no lines, " + n + " by " + q, x.colours(0, q), bare);
                due("all lines, " + n + " by " + q, x.colours(1, q), all);
                due("a loop by " + q, x.colours(2, q), 0);
            }
        }
        test(34, "MAPS (no LISTS) into q NODES (1 to 7) with all LINES but LOOPS");
        stays(Bounds::listless, "colours(1, 3)", x -> x.colours(1, 3), 6);
        test(34, "-2: empty");
        asksAtEnds(Bounds::rich, "colours(5, #)", 1, 7, (x, q) -> x.colours(5, q), EMPTY);
        test(34, "NONE: no such ones");
        refusesOutside(Bounds::rich, "colours(#, 2)", 0, 5, (x, d) -> x.colours(d, 2), NONE);
        refusesOutside(Bounds::rich, "colours(0, #)", 1, 7, (x, q) -> x.colours(0, q), NONE);
        refusesOutside(Bounds::rich, "colours(5, #)", 1, 7, (x, q) -> x.colours(5, q), NONE);
        asksAtEnds(Bounds::rich, "colours(0, #)", 1, 7, (x, q) -> x.colours(0, q), 0, 42);
    }

    private static void promise35() {
        test(35, "LEVELS: the fewest LINES k of a chain (NODES 0 to k, LINES i to i + 1), 0 to 6, into which it FITS");
        for (int n = 1; n <= 7; n++) {
            NetMaps x = new NetMaps();
            x.put(0, n);
            due("no lines", x.levels(0), 0);
            for (int a = 1; a < n; a++) {
                x.line(0, a, a - 1, true);
            }
            due("a chain of " + (n - 1), x.levels(0), n - 1);
            x.list(0, 0);
            due("no lists", x.levels(0), n - 1);
        }
        NetMaps x = with("7:0>1 2>1 2>3 4>3 4>5 6>5", "7:0>1 1>2 2>3 4>5 5>6", "7:0>1 1>2 2>3 3>4 4>5 6>3");
        due("to and fro", x.levels(0), 1);
        due("two chains", x.levels(1), 3);
        due("a branch", x.levels(2), 5);
        test(35, "-4: there are none");
        String[] texts = {LOOP, K2, RING3, RING7, "3:0>1 1>2 0>2", "7:6>6", "7:0>1 1>2 2>3 3>4 4>5 5>6 0>6"};
        for (String text : texts) {
            stays(() -> with(text), "levels of " + text, y -> y.levels(0), -4);
        }
        test(35, "-2: empty");
        stays(Bounds::rich, "levels(5)", y -> y.levels(5), EMPTY);
        test(35, "NONE: no such one");
        refusesOutside(Bounds::rich, "levels(#)", 0, 5, (y, d) -> y.levels(d), NONE);
    }

    private static void promise36() {
        test(36, "what 0 those that stay (bits), 1 how many");
        for (int n = 1; n <= 7; n++) {
            NetMaps x = new NetMaps();
            x.put(0, n);
            x.list(0, 0);
            dueFolded("no lines", x, 1 << n - 1);
            x.change(0, 2);
            dueFolded("all but loops", x, (1 << n) - 1);
            x.change(0, 3);
            dueFolded("all lines", x, 1 << n - 1);
        }
        dueFolded("a ring", with(RING7), 127);
        dueFolded("a chain", with("7:0>1 1>2 2>3 3>4 4>5 5>6"), 127);
        dueFolded("a chain both ways", with("7:0-1 1-2 2-3 3-4 4-5 5-6"), 96);
        test(36, "if another one b that is there has a LINE to (from) each that is there to (from) which a has one");
        dueFolded("all the same, to and from", with("4:0>2 1>2 3>0 3>1"), 14);
        dueFolded("not from all", with("4:0>2 1>2 3>0"), 13);
        dueFolded("not to all", with("3:0>1 2>0"), 7);
        dueFolded("a loop and a line to it", with("2:0>0 1>0"), 1);
        test(36, "the lowest NODE a that is there goes");
        dueFolded("0 for 1, not 1 for 0", with("3:0-2 1-2"), 6);
        dueFolded("0 for 1, then 2 for 3", with("4:0-2 1-2 1-3"), 10);
        test(36, "-2: empty");
        asksAtEnds(Bounds::rich, "folded(5, #)", 0, 1, (x, what) -> x.folded(5, what), EMPTY);
        test(36, "NONE: no such ones");
        refusesOutside(Bounds::rich, "folded(#, 0)", 0, 5, (x, d) -> x.folded(d, 0), NONE);
        refusesOutside(Bounds::rich, "folded(0, #)", 0, 1, (x, what) -> x.folded(0, what), NONE);
        refusesOutside(Bounds::rich, "folded(5, #)", 0, 1, (x, what) -> x.folded(5, what), NONE);
        asksAtEnds(Bounds::rich, "folded(3, #)", 0, 1, (x, what) -> x.folded(3, what), 64, 1);
    }

    private static void dueFolded(String name, NetMaps x, int stay) {
        due(name + ", folded(0, 0)", x.folded(0, 0), stay);
        due(name + ", folded(0, 1)", x.folded(0, 1), Integer.bitCount(stay));
    }

    private static void promise37() {
        test(37, "NODES (bits) that a NODE becomes by MAPS of sort 4 of a DRAWER into itself");
        for (int n = 1; n <= 7; n++) {
            NetMaps x = new NetMaps();
            x.put(0, n);
            x.list(0, 0);
            due("no lines", x.orbit(0, n - 1), (1 << n) - 1);
            x.line(0, n - 1, n - 1, true);
            due("the one loop", x.orbit(0, n - 1), 1 << n - 1);
            due("all others", x.orbit(0, 0), n == 1 ? 1 : (1 << n - 1) - 1);
        }
        NetMaps x = with(RING7, "7:0>1 1>2 2>3 3>4 4>5 5>6", "7:0-1 1-2 2-3 3-4 4-5 5-6");
        for (int a = 0; a < 7; a++) {
            due("a ring", x.orbit(0, a), 127);
            due("a chain", x.orbit(1, a), 1 << a);
            due("a chain both ways", x.orbit(2, a), 1 << a | 1 << 6 - a);
        }
        stays(Bounds::listless, "orbit(1, 2), no lists", y -> y.orbit(1, 2), 7);
        test(37, "-2: empty");
        asksAtEnds(Bounds::rich, "orbit(5, #)", 0, 6, (y, a) -> y.orbit(5, a), EMPTY);
        test(37, "NONE: no such ones");
        refusesOutside(Bounds::rich, "orbit(#, 0)", 0, 5, (y, d) -> y.orbit(d, 0), NONE);
        refusesOutside(Bounds::rich, "orbit(1, #)", 0, 2, (y, a) -> y.orbit(1, a), NONE);
        refusesOutside(Bounds::rich, "orbit(3, #)", 0, 6, (y, a) -> y.orbit(3, a), NONE);
        refusesOutside(Bounds::rich, "orbit(5, #)", 0, 6, (y, a) -> y.orbit(5, a), NONE);
        asksAtEnds(Bounds::rich, "orbit(3, #)", 0, 6, (y, a) -> y.orbit(3, a), 127);
    }

    private static void promise38() {
        World world = BoundsOfOperationsTest::tried;
        Trial trial = NetMaps::between;
        int[] no = {0, 0, 0};
        int[] none = {-4, -4, -4};
        test(38, "into which d FITS, which FIT into e, but not back (either)");
        // Lines, no loop, none both ways, no ring of three: 3 * 3 * 3 - 1 - 8.
        dueTried("one node and two ways", world, trial, 1, 2, new int[] {0, 2, 18}, new int[] {-4, 2, 2});
        dueTried("one node and a loop: lines, no loop", world, trial, 1, 0, new int[] {0, 3, 63}, new int[] {-4, 2, 2});
        // Lines between each two of three, somewhere both ways: 27 less the 8 that are one way all through.
        dueTried("two ways and a loop", world, trial, 2, 0, new int[] {0, 0, 19}, new int[] {-4, -4, 46});
        test(38, "how many (first false), the number of the first (-4: none)");
        dueTried("nothing between", world, trial, 1, 3, no, none);
        dueTried("back from a loop", world, trial, 0, 5, no, none);
        dueTried("d does not fit", world, trial, 0, 1, no, none);
        dueTried("itself", world, trial, 2, 2, no, none);
        triedRefused(38, "-2: one is empty", "NONE: no such ones", "between", trial);
    }

    private static void promise39() {
        World world = BoundsOfOperationsTest::tried;
        Trial trial = NetMaps::unlike;
        test(39, "NETWORKS of n NODES (1 to 3) with another number of MAPS (no LISTS) into d than into e, likewise");
        dueTried("one and two nodes", world, trial, 1, 5, new int[] {2, 16, 512}, new int[] {0, 0, 0});
        dueTried("the same twice", world, trial, 5, 5, new int[] {0, 0, 0}, new int[] {-4, -4, -4});
        dueTried("one node and its loop", world, trial, 1, 0, new int[] {1, 15, 511}, new int[] {1, 1, 1});
        World turned = () -> {
            NetMaps x = with("3:0>1 0>2", "3:1>0 2>0");
            x.list(0, 0);
            return x;
        };
        // Both have two lines and no way of two lines; only what is 0>1 0>2 or 1>0 2>0 tells them apart.
        dueTried("turned", turned, trial, 0, 1, new int[] {0, 0, 6}, new int[] {-4, -4, 6});
        triedRefused(39, "likewise", "likewise", "unlike", trial);
    }

    private static void promise40() {
        test(40, "How many ways of k LINES (0 to 9; none: the NODE itself) lead from a NODE to another one, or itself");
        NetMaps x = fullAndBare();
        told(x, 2, RING7);
        told(x, 3, LOOP);
        told(x, 4, "2:0>0 0>1 1>0");
        int all = 1;
        int[] rabbits = {1, 1, 2, 3, 5, 8, 13, 21, 34, 55};
        for (int k = 0; k <= 9; k++) {
            for (int b = 0; b < 7; b++) {
                due("all lines, k " + k, x.ways(0, 6, b, k), k == 0 ? b == 6 ? 1 : 0 : all);
                due("no lines, k " + k, x.ways(1, 6, b, k), k == 0 && b == 6 ? 1 : 0);
                due("a ring, k " + k, x.ways(2, 6, b, k), b == (6 + k) % 7 ? 1 : 0);
            }
            all *= k == 0 ? 1 : 7;
            due("a loop, k " + k, x.ways(3, 0, 0, k), 1);
            due("a loop and a way back, k " + k, x.ways(4, 0, 0, k), rabbits[k]);
        }
        due("the most: 7 to the 8th", x.ways(0, 0, 0, 9), 5764801);
    }

    private static void promise40Refused() {
        test(40, "NONE: no such ones");
        refusesOutside(Bounds::rich, "ways(0, 0, 0, #)", 0, 9, (x, k) -> x.ways(0, 0, 0, k), NONE);
        refusesOutside(Bounds::rich, "ways(0, #, 0, 1)", 0, 1, (x, a) -> x.ways(0, a, 0, 1), NONE);
        refusesOutside(Bounds::rich, "ways(0, 0, #, 1)", 0, 1, (x, b) -> x.ways(0, 0, b, 1), NONE);
        refusesOutside(Bounds::rich, "ways(3, #, 0, 0)", 0, 6, (x, a) -> x.ways(3, a, 0, 0), NONE);
        refusesOutside(Bounds::rich, "ways(3, 0, #, 0)", 0, 6, (x, b) -> x.ways(3, 0, b, 0), NONE);
        refusesOutside(Bounds::rich, "ways(#, 0, 0, 1)", 0, 5, (x, d) -> x.ways(d, 0, 0, 1), NONE);
        asksAtEnds(Bounds::rich, "ways(0, 0, 1, #)", 0, 9, (x, k) -> x.ways(0, 0, 1, k), 0, 1);
        asksAtEnds(Bounds::rich, "ways(0, #, 1, 1)", 0, 1, (x, a) -> x.ways(0, a, 1, 1), 1, 0);
        test(40, "-2: empty");
        asksAtEnds(Bounds::rich, "ways(5, #, 0, 0)", 0, 6, (x, a) -> x.ways(5, a, 0, 0), EMPTY);
        asksAtEnds(Bounds::rich, "ways(5, 0, #, 9)", 0, 6, (x, b) -> x.ways(5, 0, b, 9), EMPTY);
        test(40, "Of several reasons NONE comes first, then -2");
        refusesOutside(Bounds::rich, "ways(5, #, 0, 0)", 0, 6, (x, a) -> x.ways(5, a, 0, 0), NONE);
        refusesOutside(Bounds::rich, "ways(5, 0, #, 0)", 0, 6, (x, b) -> x.ways(5, 0, b, 0), NONE);
        refusesOutside(Bounds::rich, "ways(5, 0, 0, #)", 0, 9, (x, k) -> x.ways(5, 0, 0, k), NONE);
    }

    private static void promise41() {
        test(41, "A NETWORK as a TEXT without blanks");
        NetMaps x = fullAndBare();
        told(x, 2, ONE);
        told(x, 3, LOOP);
        String full = "7:0>00-10-20-30-40-50-61>11-21-31-41-51-62>22-32-42-52-63>33-43-53-64>44-54-65>55-66>6";
        for (int k = 0; k < 86; k++) {
            due("byte " + k + " of all lines", x.letter(0, k), full.charAt(k));
        }
        due("how many", x.letter(0, NONE), 86);
        dueText(x, 1, "7:");
        dueText(x, 2, "1:");
        dueText(x, 3, "1:0>0");
        test(41, "each LINE a>b, but a-b for that and b to a (a less than b; once)");
        NetMaps y = with("3:2>1 1>2 1>0 2>2", "7:6>0", "7:6>0 0>6", "2:1-0");
        dueText(y, 0, "3:1>01-22>2");
        dueText(y, 1, "7:6>0");
        dueText(y, 2, "7:0-6");
        dueText(y, 3, "2:0-1");
        test(41, "k NONE: how many");
        due("one way each", y.letter(1, NONE), 5);
        due("none", with("7:").letter(0, NONE), 2);
    }

    private static void promise41Refused() {
        test(41, "-3: not so many");
        for (int k : new int[] {86, 87, GREATEST}) {
            stays(Bounds::fullAndBare, "letter(0, " + k + ")", x -> x.letter(0, k), -3);
        }
        stays(Bounds::fullAndBare, "letter(0, 85)", x -> x.letter(0, 85), '6');
        for (int k : new int[] {2, 3, 86, GREATEST}) {
            stays(Bounds::fullAndBare, "letter(1, " + k + ")", x -> x.letter(1, k), -3);
        }
        stays(Bounds::fullAndBare, "letter(1, 1)", x -> x.letter(1, 1), ':');
        stays(Bounds::fullAndBare, "letter(1, 0)", x -> x.letter(1, 0), '7');
        test(41, "-2: empty");
        for (int k : new int[] {NONE, 0, 85, GREATEST}) {
            stays(Bounds::rich, "letter(5, " + k + ")", x -> x.letter(5, k), EMPTY);
        }
        test(41, "NONE: no such ones");
        refusesOutside(Bounds::rich, "letter(#, 0)", 0, 5, (x, d) -> x.letter(d, 0), NONE);
        refusesOutside(Bounds::rich, "letter(#, -1)", 0, 5, (x, d) -> x.letter(d, NONE), NONE);
        refusesOutside(Bounds::rich, "letter(#, 99)", 0, 5, (x, d) -> x.letter(d, 99), NONE);
        for (int k : new int[] {-2, -3, LEAST}) {
            stays(Bounds::rich, "letter(0, " + k + ")", x -> x.letter(0, k), NONE);
            stays(Bounds::rich, "letter(5, " + k + ")", x -> x.letter(5, k), NONE);
        }
    }
}

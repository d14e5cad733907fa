import java.util.List;

/** Each sentence of a promise that no other test has by name, by what is plainly due of small networks. */
public final class SentencesOfPromisesTest extends Sentences {
    private static final int[][] LISTS = {{127, 127, 127}, {5, 3, 6}, {127, 4, 127}, {3, 127, 0}};

    public static void main(String[] args) {
        net();
        told();
        made();
        changed();
        drawn();
        countedMaps();
        becomes();
        tries();
        tightened();
        images();
        weights();
        behind();
        sets();
        crowds();
        tables();
        trials();
        levels();
        folded();
        orbits();
        between();
        unlike();
        ways();
        letters();
        kept();
        end("sentences of the promises");
    }

    private static String pair(boolean[][] g, boolean[][] h) {
        return " of " + text(g) + ", " + text(h);
    }

    private static int max(int[] numbers) {
        int max = 0;
        for (int number : numbers) {
            max = Math.max(max, number);
        }
        return max;
    }

    // ---- texts, drawers

    private static void net() {
        test(3, "A TEXT by the tape's first n bytes (1 to 80; empty then) comes into DRAWER d: how many LINES");
        String blank = "4 : 0 > 1  2 - 3 1>1 ";
        for (int d = 0; d <= 5; d++) {
            for (int n = 1; n <= 40; n++) {
                // Two feeds, and as much of the text as n bytes tell.
                NetMaps x = new NetMaps();
                feedAll(x, blank + "z".repeat(19));
                String told = n <= blank.length() ? blank.substring(0, n).replace(" ", "") : "z";
                boolean whole = told.matches("4:(\\d[->]\\d)*");
                int want = whole ? new int[] {0, 1, 3, 4}[told.length() / 3]
                        : told.equals("z") ? -1000 - blank.length() : -1000 - n;
                due("net(" + d + ", " + n + ")", x.net(d, n), want);
                due("count(1)", x.count(1), 0);
                due("count(0)", x.count(0), whole ? 1 << d : 0);
                due("told(" + d + ", 1)", x.told(d, 1), whole ? want : EMPTY);
            }
        }
    }

    private static void told() {
        test(7, "Of a DRAWER, what 0 NODES, 1 LINES, 2 LOOPS, 3 PIECES, 4 whether it is TWO-WAY (1, 0), "
                + "5 the SHORTEST RING (0: none), 6 NODES on RINGS (bits), 7 the most LINES that go from one NODE, "
                + "8 the most that come to one");
        for (boolean[][] g : small(1)) {
            int n = g.length;
            NetMaps x = holding(g);
            int loops = 0;
            boolean twoWay = true;
            int[] from = new int[n];
            int[] to = new int[n];
            int pieces = n;
            boolean[][] both = new boolean[n][n];
            for (int i = 0; i < n * n; i++) {
                int a = i / n;
                int b = i % n;
                loops += a == b && g[a][b] ? 1 : 0;
                twoWay &= g[a][b] == g[b][a];
                from[a] += g[a][b] ? 1 : 0;
                to[b] += g[a][b] ? 1 : 0;
                both[a][b] = g[a][b] || g[b][a];
            }
            for (int a = 0; a < n; a++) {
                // A node that hangs together with a lower one begins no piece.
                boolean begins = true;
                for (int b = 0; b < a; b++) {
                    begins &= shortest(both, b, a) == 0;
                }
                pieces -= begins ? 0 : 1;
            }
            int[] want = {n, lines(g), loops, pieces, twoWay ? 1 : 0};
            for (int what = 0; what < want.length; what++) {
                due("told(0, " + what + ")" + " of " + text(g), x.told(0, what), want[what]);
            }
            due("told(0, 5) of " + text(g), x.told(0, 5), shortestRing(g));
            due("told(0, 7) of " + text(g), x.told(0, 7), max(from));
            due("told(0, 8) of " + text(g), x.told(0, 8), max(to));
        }
    }

    private static int shortestRing(boolean[][] g) {
        for (int k = 1; k <= g.length; k++) {
            for (int a = 0; a < g.length; a++) {
                if (ways(g, k)[a][a] > 0) {
                    return k;
                }
            }
        }
        return 0;
    }

    // ---- made

    private static void made() {
        test(10, "Into DRAWER f, of those in d and e, how 0 SUM, 1 PRODUCT, 2 NODES of d (as many as e's) with LINES "
                + "of either, 3 with LINES of both, 4 POWER of d by e: its LINES");
        for (boolean[][] g : small(11)) {
            for (boolean[][] h : small(13)) {
                if (g.length == h.length) {
                    NetMaps x = holding(g, h);
                    boolean[][] either = new boolean[g.length][g.length];
                    boolean[][] both = new boolean[g.length][g.length];
                    for (int i = 0; i < g.length * g.length; i++) {
                        int a = i / g.length;
                        int b = i % g.length;
                        either[a][b] = g[a][b] || h[a][b];
                        both[a][b] = g[a][b] && h[a][b];
                    }
                    due("either" + pair(g, h), x.make(0, 1, 4, 2), lines(either));
                    dueSquare("either" + pair(g, h), x, 4, either);
                    due("both" + pair(g, h), x.make(0, 1, 5, 3), lines(both));
                    dueSquare("both" + pair(g, h), x, 5, both);
                }
            }
        }
        // What comes out is the same in whichever drawer it comes, those that it is made of too.
        for (int how = 0; how <= 4; how++) {
            for (int f = 0; f <= 5; f++) {
                NetMaps x = with("2:0>1 1>1", null, null, "2:0>0 1>0");
                NetMaps y = with("2:0>1 1>1", null, null, "2:0>0 1>0");
                due("make(0, 3, " + f + ", " + how + ")", x.make(0, 3, f, how), y.make(0, 3, 5, how));
                dueText(x, f, text(y, 5));
                due("the others", x.count(0), 9 | 1 << f);
                due("its lines", x.told(f, 1), y.told(5, 1));
            }
        }
    }

    private static void changed() {
        test(11, "A DRAWER's NETWORK, how 0 turned (each LINE goes back), 1 both ways, 2 LINES where there were none, "
                + "none where there were (LOOPS as they are), 3 all LOOPS, 4 no LOOPS, 5 THE CORE, "
                + "6 a LINE to where a WAY leads: its LINES then");
        for (boolean[][] g : small(3)) {
            for (int how = 0; how <= 6; how++) {
                NetMaps x = holding(g, g);
                boolean[][] want = changed(g, how);
                due("change(0, " + how + ") of " + text(g), x.change(0, how), lines(want));
                dueSquare("change(0, " + how + ") of " + text(g), x, 0, want);
                dueSquare("the other drawer", x, 1, g);
            }
        }
    }

    private static boolean[][] changed(boolean[][] g, int how) {
        if (how == 5) {
            return part(g, core(g));
        }
        boolean[][] want = new boolean[g.length][g.length];
        for (int a = 0; a < g.length; a++) {
            for (int b = 0; b < g.length; b++) {
                boolean loop = a == b;
                boolean[] all = {
                    g[b][a], g[a][b] || g[b][a], loop ? g[a][b] : !g[a][b], loop || g[a][b], !loop && g[a][b], false,
                    shortest(g, a, b) > 0,
                };
                want[a][b] = all[how];
            }
        }
        return want;
    }

    private static void drawn() {
        test(13, "DRAWN into d by a seed: n NODES; for a from 0, b from 0 (the last fastest) a DRAW below tenths "
                + "(0 to 10): a LINE a to b, but for LOOPS (no DRAW): its LINES. A DRAW: X = (25173 X + 13849) "
                + "modulo 65536 (X is the lowest 16 bits of the seed at first): X through 4, cut, modulo 10");
        int[] seeds = {0, 1, 7, 4711, 65535, 65536, -1, 1 << 31, 0x7fffffff, 123456789, -987654321};
        for (int seed : seeds) {
            for (int n = 1; n <= 7; n++) {
                for (int tenths = 0; tenths <= 10; tenths++) {
                    boolean[][] want = new boolean[n][n];
                    long state = Math.floorMod((long) seed, 65536L);
                    for (int i = 0; i < n * n; i++) {
                        if (i / n != i % n) {
                            state = (25173 * state + 13849) % 65536;
                            want[i / n][i % n] = state / 4 % 10 < tenths;
                        }
                    }
                    String call = "drawn(3, " + n + ", " + seed + ", " + tenths + ")";
                    NetMaps x = new NetMaps();
                    due(call, x.drawn(3, n, seed, tenths), lines(want));
                    dueSquare(call, x, 3, want);
                }
            }
        }
    }

    // ---- maps

    private static NetMaps listed(boolean[][] g, boolean[][] h, int[] lists) {
        NetMaps x = holding(g, h);
        for (int a = 0; a < lists.length; a++) {
            x.list(a, lists[a]);
        }
        return x;
    }

    private static void countedMaps() {
        test(16, "How many MAPS of d into e by LISTS (sort 0), of these: 1 no two NODES become one, "
                + "2 each NODE of e is one, 3 each LINE of e, too, is one that a LINE became, 4 (no LISTS count) "
                + "not one LINE more: one to one, all NODES, a LINE just where one was");
        for (boolean[][] g : small(17)) {
            for (boolean[][] h : small(19)) {
                for (int[] lists : LISTS) {
                    int[] want = sorts(g, h, lists);
                    NetMaps x = listed(g, h, lists);
                    for (int sort = 0; sort <= 4; sort++) {
                        due("maps(0, 1, " + sort + ")" + pair(g, h), x.maps(0, 1, sort), want[sort]);
                    }
                }
            }
        }
    }

    private static int[] sorts(boolean[][] g, boolean[][] h, int[] lists) {
        int[] many = new int[5];
        for (int[] f : byLists(maps(g, h), lists)) {
            boolean all = Integer.bitCount(reached(f)) == h.length;
            many[0]++;
            many[1] += Integer.bitCount(reached(f)) == g.length ? 1 : 0;
            many[2] += all ? 1 : 0;
            many[3] += all && linesReached(g, f) == lines(h) ? 1 : 0;
        }
        for (int[] f : maps(g, h)) {
            boolean oneToOne = Integer.bitCount(reached(f)) == g.length && g.length == h.length;
            many[4] += oneToOne && lines(g) == lines(h) ? 1 : 0;
        }
        return many;
    }

    /** How many lines some line becomes. */
    private static int linesReached(boolean[][] g, int[] f) {
        boolean[][] reached = new boolean[7][7];
        for (int a = 0; a < g.length; a++) {
            for (int b = 0; b < g.length; b++) {
                reached[f[a]][f[b]] |= g[a][b];
            }
        }
        return lines(reached);
    }

    private static void becomes() {
        test(18, "MAPS by LISTS by which NODE a becomes x");
        for (boolean[][] g : small(59)) {
            for (boolean[][] h : small(47)) {
                for (int[] lists : LISTS) {
                    NetMaps x = listed(g, h, lists);
                    List<int[]> maps = byLists(maps(g, h), lists);
                    for (int a = 0; a < g.length; a++) {
                        for (int y = 0; y < h.length; y++) {
                            int many = 0;
                            for (int[] f : maps) {
                                many += f[a] == y ? 1 : 0;
                            }
                            due("becomes(0, 1, " + a + ", " + y + ")" + pair(g, h), x.becomes(0, 1, a, y), many);
                        }
                    }
                }
            }
        }
    }

    private static void tries() {
        test(21, "TRIES to find MAP 0 by LISTS of d into e: NODES of d from 0 on, each of what may be by its list and "
                + "the LINES to, from those ahead, itself, rising: each is one, then the next NODE; till a MAP stands, "
                + "or all is tried: how many");
        for (boolean[][] g : small(17)) {
            for (boolean[][] h : small(19)) {
                for (int[] lists : LISTS) {
                    NetMaps x = listed(g, h, lists);
                    due("search(0, 1)" + pair(g, h), x.search(0, 1), tries(g, h, lists));
                }
            }
        }
    }

    /** Every row up to a node that keeps its lines by the lists is one try, if it comes ahead of the first map's. */
    private static int tries(boolean[][] g, boolean[][] h, int[] lists) {
        List<int[]> maps = byLists(maps(g, h), lists);
        int tries = 0;
        for (int n = 1; n <= g.length; n++) {
            for (int[] row : byLists(maps(part(g, (1 << n) - 1), h), lists)) {
                tries += maps.isEmpty() || !isBehind(row, maps.get(0)) ? 1 : 0;
            }
        }
        return tries;
    }

    private static boolean isBehind(int[] row, int[] map) {
        for (int a = 0; a < row.length; a++) {
            if (row[a] != map[a]) {
                return row[a] > map[a];
            }
        }
        return false;
    }

    private static void tightened() {
        test(22, "LISTS of all NODES of d become LEFT for d into e: how many NODES of e went out of them");
        for (boolean[][] g : small(29)) {
            for (boolean[][] h : small(31)) {
                for (int[] lists : LISTS) {
                    NetMaps x = listed(g, h, lists);
                    int[] left = left(g, h, lists);
                    int out = 0;
                    for (int a = 0; a < g.length; a++) {
                        out += Integer.bitCount(lists[a] & (1 << h.length) - 1 & ~left[a]);
                    }
                    due("tighten(0, 1)" + pair(g, h), x.tighten(0, 1), out);
                    for (int a = 0; a <= 6; a++) {
                        int was = a < lists.length ? lists[a] : 127;
                        due("list " + a + pair(g, h), x.count(10 + a), a < g.length ? left[a] : was);
                    }
                    due("tighten(0, 1), tight", x.tighten(0, 1), 0);
                }
            }
        }
    }

    private static void images() {
        test(23, "Of MAPS by LISTS those by which fewest (else most) NODES of e are one that some NODE became, "
                + "what 0 how many NODES, 1 how many such MAPS, 2 the number of the first; -2: one is empty; "
                + "-4: there are no MAPS; NONE: no such ones");
        for (boolean[][] g : small(29)) {
            for (boolean[][] h : small(23)) {
                for (int[] lists : LISTS) {
                    NetMaps x = listed(g, h, lists);
                    List<int[]> maps = byLists(maps(g, h), lists);
                    int[] sizes = new int[maps.size()];
                    for (int k = 0; k < sizes.length; k++) {
                        sizes[k] = Integer.bitCount(reached(maps.get(k)));
                    }
                    for (int what = 0; what <= 2; what++) {
                        String call = ", " + what + ")" + pair(g, h);
                        due("image(0, 1, true" + call, x.image(0, 1, true, what), best(sizes, true, what));
                        due("image(0, 1, false" + call, x.image(0, 1, false, what), best(sizes, false, what));
                    }
                    due("image(0, 2, true, 0)", x.image(0, 2, true, 0), EMPTY);
                    due("image(2, 1, false, 2)", x.image(2, 1, false, 2), EMPTY);
                    due("image(0, 1, true, 3)", x.image(0, 1, true, 3), NONE);
                }
            }
        }
    }

    /** Of numbers the least or greatest, how many are it, which one is the first; -4 of none. */
    private static int best(int[] numbers, boolean least, int what) {
        int first = NONE;
        int many = 0;
        for (int k = 0; k < numbers.length; k++) {
            boolean better = first < 0 || (least ? numbers[k] < numbers[first] : numbers[k] > numbers[first]);
            first = better ? k : first;
            many = better ? 1 : numbers[k] == numbers[first] ? many + 1 : many;
        }
        return first < 0 ? -4 : new int[] {numbers[first], many, first}[what];
    }

    private static void weights() {
        test(25, "Of MAPS by LISTS those of least (else most) WEIGHTS (of what each NODE becomes, together), likewise");
        int[][] weights = {{0, 0, 0}, {3, 1, 2}, {9, 0, 9}, {1, 1, 8}};
        for (boolean[][] g : small(37)) {
            for (boolean[][] h : small(31)) {
                for (int i = 0; i < weights.length; i++) {
                    NetMaps x = listed(g, h, LISTS[i]);
                    for (int y = 0; y < 3; y++) {
                        x.weigh(y, weights[i][y]);
                    }
                    int[] sums = sums(byLists(maps(g, h), LISTS[i]), weights[i]);
                    for (int what = 0; what <= 2; what++) {
                        String call = ", " + what + ")" + pair(g, h);
                        due("cheapest(0, 1, true" + call, x.cheapest(0, 1, true, what), best(sums, true, what));
                        due("cheapest(0, 1, false" + call, x.cheapest(0, 1, false, what), best(sums, false, what));
                    }
                    due("cheapest(0, 2, true, 0)", x.cheapest(0, 2, true, 0), EMPTY);
                    due("cheapest(2, 1, false, 2)", x.cheapest(2, 1, false, 2), EMPTY);
                    due("cheapest(0, 1, true, 3)", x.cheapest(0, 1, true, 3), NONE);
                }
            }
        }
    }

    private static int[] sums(List<int[]> maps, int[] weights) {
        int[] sums = new int[maps.size()];
        for (int k = 0; k < sums.length; k++) {
            for (int y : maps.get(k)) {
                sums[k] += weights[y];
            }
        }
        return sums;
    }

    private static void behind() {
        test(26, "MAP k of d into e, then MAP l of e into f (no LISTS all through): "
                + "the number of that MAP of d into f");
        for (boolean[][] g : small(113)) {
            for (boolean[][] h : small(127)) {
                boolean[][] i = square(3, 0b011110101);
                List<int[]> one = maps(g, h);
                List<int[]> two = maps(h, i);
                List<int[]> both = maps(g, i);
                NetMaps x = holding(g, h, i);
                x.list(0, 0);
                for (int k = 0; k < one.size(); k += 1 + one.size() / 20) {
                    for (int l = 0; l < two.size(); l += 1 + two.size() / 20) {
                        int[] map = new int[g.length];
                        for (int a = 0; a < map.length; a++) {
                            map[a] = two.get(l)[one.get(k)[a]];
                        }
                        String call = "behind(0, 1, 2, " + k + ", " + l + ")" + pair(g, h);
                        due(call, x.behind(0, 1, 2, k, l), indexOf(both, map));
                    }
                }
                due("behind" + pair(g, h), x.behind(0, 1, 2, one.size(), 0), -3);
                due("behind" + pair(g, h), x.behind(0, 1, 2, 0, two.size()), -3);
            }
        }
    }

    // ---- cores, maps beside maps

    private static void sets() {
        test(27, "RETRACTIONS of a DRAWER, what 0 how many, 1 the NODES (bits) of THE CORE, 2 how many NODES it has, "
                + "3 how many sets of NODES some RETRACTION becomes");
        for (boolean[][] g : small(1)) {
            List<int[]> some = retractions(g);
            int sets = 0;
            for (int set = 1; set < 1 << g.length; set++) {
                boolean is = false;
                for (int[] f : some) {
                    is |= reached(f) == set;
                }
                sets += is ? 1 : 0;
            }
            int[] want = {some.size(), core(g), Integer.bitCount(core(g)), sets};
            NetMaps x = holding(g);
            x.list(0, 0);
            for (int what = 0; what <= 3; what++) {
                due("core(0, " + what + ") of " + text(g), x.core(0, what), want[what]);
            }
        }
    }

    private static void crowds() {
        test(30, "Of all MAPS by LISTS, what 0 FROZEN ones, 1 crowds that hang together by steps, 2 the greatest such "
                + "crowd, 3 twos that are BESIDE; -2: one is empty; -3: more than 2000; NONE: no such ones");
        for (boolean[][] g : small(61)) {
            for (boolean[][] h : small(53)) {
                for (int[] lists : LISTS) {
                    List<int[]> maps = byLists(maps(g, h), lists);
                    int[] want = new int[4];
                    for (int k = 0; k < maps.size(); k++) {
                        int[] steps = steps(maps, k);
                        int size = 0;
                        int beside = 0;
                        boolean first = true;
                        for (int l = 0; l < steps.length; l++) {
                            size += steps[l] >= 0 ? 1 : 0;
                            beside += steps[l] == 1 ? 1 : 0;
                            first &= steps[l] < 0 || l >= k;
                            want[3] += steps[l] == 1 && l < k ? 1 : 0;
                        }
                        want[0] += beside == 0 ? 1 : 0;
                        want[1] += first ? 1 : 0;
                        want[2] = Math.max(want[2], size);
                    }
                    NetMaps x = listed(g, h, lists);
                    for (int what = 0; what <= 3; what++) {
                        due("crowds(0, 1, " + what + ")" + pair(g, h), x.crowds(0, 1, what), want[what]);
                    }
                }
            }
        }
    }

    // ---- operations, dualities

    private static void tables() {
        test(31, "OPERATIONS of two of a DRAWER, what 0 all, 1 IDLE, 2 FAIR ones; OF THREE by the MAJORITY: "
                + "3: how many; -2: empty; -3: more than 3 NODES; NONE: no such ones");
        for (boolean[][] h : small(29)) {
            NetMaps x = holding(h);
            x.list(0, 0);
            for (int what = 0; what <= 3; what++) {
                due("operations(0, " + what + ") of " + text(h), x.operations(0, what), tables(h, what).size());
            }
        }
        NetMaps x = with("4:");
        for (int what = -1; what <= 4; what++) {
            boolean none = what < 0 || what > 3;
            due("operations(0, " + what + ") of four", x.operations(0, what), none ? NONE : -3);
            due("operations(1, " + what + ") of none", x.operations(1, what), none ? NONE : EMPTY);
        }
        test(32, "f(x, y) of the k-th of the sort what (0 to 2), f(x, y, z) of the k-th of 3 (z counts there alone)");
        for (boolean[][] h : small(61)) {
            for (int what = 0; what <= 3; what++) {
                dueLastTable(h, what, tables(h, what));
            }
        }
    }

    /** The last of some tables at each place, and none behind it. */
    private static void dueLastTable(boolean[][] h, int what, List<int[]> some) {
        int n = h.length;
        int k = some.size() - 1;
        NetMaps x = holding(h);
        for (int i = 0; i < n * n * n && k >= 0; i++) {
            String call = "operation of sort " + what + " of " + text(h) + " at " + i;
            due(call, x.operation(0, what, k, i / n / n, i / n % n, i % n), some.get(k)[what == 3 ? i : i / n]);
        }
        due("operation, z counts", x.operation(0, what, some.size(), 0, 0, n), what == 3 ? NONE : -4);
        due("operation, not so many", x.operation(0, what, some.size(), 0, 0, 0), -4);
    }

    private interface Trial {
        int of(NetMaps x, int d, int e, int n, boolean first);
    }

    private static void trials() {
        test(33, "-2: one is empty; NONE: no such ones");
        dueRefused("duality", NetMaps::duality);
        test(38, "-2: one is empty; NONE: no such ones");
        dueRefused("between", NetMaps::between);
        test(39, "likewise");
        dueRefused("unlike", NetMaps::unlike);
    }

    private static void dueRefused(String name, Trial trial) {
        // Drawer 0 alone is not empty.
        NetMaps x = with(K2);
        for (int d = -1; d <= 6; d++) {
            for (int n = -1; n <= 4; n++) {
                long want = d < 0 || d > 5 || n < 1 || n > 3 ? NONE : EMPTY;
                String call = ", " + n + ", ..)";
                due(name + "(" + d + ", 1" + call, trial.of(x, d, 1, n, d > 2), want);
                due(name + "(1, " + d + call, trial.of(x, 1, d, n, d > 2), want);
                due(name + "(" + d + ", 1" + call, trial.of(x, d, 1, n, d <= 2), want);
                due(name + "(1, " + d + call, trial.of(x, 1, d, n, d <= 2), want);
            }
        }
    }

    private static void levels() {
        test(35, "LEVELS; -2: empty; -4: there are none; NONE: no such one");
        for (boolean[][] g : small(1)) {
            int levels = -4;
            for (int k = 6; k >= 0; k--) {
                boolean[][] chain = new boolean[k + 1][k + 1];
                for (int i = 0; i < k; i++) {
                    chain[i][i + 1] = true;
                }
                levels = fitsInto(g, chain) ? k : levels;
            }
            due("levels(0) of " + text(g), holding(g).levels(0), levels);
        }
        NetMaps x = new NetMaps();
        for (int d = -1; d <= 6; d++) {
            due("levels(" + d + ")", x.levels(d), d < 0 || d > 5 ? NONE : EMPTY);
        }
    }

    private static void folded() {
        test(36, "FOLDED: again and again the lowest NODE a that is there goes, if another one b that is there has "
                + "a LINE to (from) each that is there to (from) which a has one: what 0 those that stay (bits), "
                + "1 how many");
        for (boolean[][] g : small(1)) {
            int there = (1 << g.length) - 1;
            for (int a = 0; a < g.length; a++) {
                if (mayGo(g, there, a)) {
                    there &= ~(1 << a);
                    a = -1;
                }
            }
            due("folded(0, 0) of " + text(g), holding(g).folded(0, 0), there);
            due("folded(0, 1) of " + text(g), holding(g).folded(0, 1), Integer.bitCount(there));
        }
    }

    private static boolean mayGo(boolean[][] g, int there, int a) {
        boolean goes = false;
        for (int b = 0; b < g.length; b++) {
            boolean stands = a != b && (there >> a & there >> b & 1) != 0;
            for (int c = 0; c < g.length; c++) {
                boolean counts = (there >> c & 1) != 0;
                stands &= !(counts && (g[a][c] && !g[b][c] || g[c][a] && !g[c][b]));
            }
            goes |= stands;
        }
        return goes;
    }

    private static void orbits() {
        test(37, "NODES (bits) that a NODE becomes by MAPS of sort 4 of a DRAWER into itself");
        for (boolean[][] g : small(1)) {
            NetMaps x = holding(g);
            x.list(0, 0);
            for (int a = 0; a < g.length; a++) {
                int orbit = 0;
                for (int[] f : maps(g, g)) {
                    orbit |= Integer.bitCount(reached(f)) == g.length ? 1 << f[a] : 0;
                }
                due("orbit(0, " + a + ") of " + text(g), x.orbit(0, a), orbit);
            }
        }
    }

    private static void between() {
        test(38, "NETWORKS of n NODES (1 to 3), numbered as of a DUALITY, into which d FITS, which FIT into e, "
                + "but not back (either): how many (first false), the number of the first (-4: none)");
        for (boolean[][] one : small(89)) {
            for (boolean[][] two : small(101)) {
                int n = 1 + (lines(one) + lines(two)) % 3;
                int many = 0;
                int first = -4;
                for (int number = (1 << n * n) - 1; number >= 0; number--) {
                    boolean[][] g = square(n, number);
                    if (fitsInto(one, g) && fitsInto(g, two) && !fitsInto(g, one) && !fitsInto(two, g)) {
                        many++;
                        first = number;
                    }
                }
                NetMaps x = holding(one, two);
                due("between, n " + n + pair(one, two), x.between(0, 1, n, false), many);
                due("between, n " + n + pair(one, two), x.between(0, 1, n, true), first);
            }
        }
    }

    private static void unlike() {
        test(39, "NETWORKS of n NODES (1 to 3) with another number of MAPS (no LISTS) into d than into e, likewise");
        for (boolean[][] one : small(89)) {
            for (boolean[][] two : small(101)) {
                int n = 1 + (lines(one) + lines(two)) % 3;
                int many = 0;
                int first = -4;
                for (int number = (1 << n * n) - 1; number >= 0; number--) {
                    boolean[][] g = square(n, number);
                    if (maps(g, one).size() != maps(g, two).size()) {
                        many++;
                        first = number;
                    }
                }
                NetMaps x = holding(one, two);
                x.list(0, 0);
                due("unlike, n " + n + pair(one, two), x.unlike(0, 1, n, false), many);
                due("unlike, n " + n + pair(one, two), x.unlike(0, 1, n, true), first);
            }
        }
    }

    private static void ways() {
        test(40, "How many ways of k LINES (0 to 9; none: the NODE itself) lead from a NODE to another one, or itself");
        for (boolean[][] g : small(7)) {
            NetMaps x = holding(g);
            for (int k = 0; k <= 9; k++) {
                long[][] ways = ways(g, k);
                for (int i = 0; i < g.length * g.length; i++) {
                    int a = i / g.length;
                    int b = i % g.length;
                    due("ways(0, " + a + ", " + b + ", " + k + ") of " + text(g), x.ways(0, a, b, k), ways[a][b]);
                }
            }
        }
    }

    private static void letters() {
        test(41, "A NETWORK as a TEXT without blanks: n, :, then by a, then b, each LINE a>b, but a-b for that and "
                + "b to a (a less than b; once): its byte k; k NONE: how many");
        for (boolean[][] g : small(1)) {
            StringBuilder want = new StringBuilder().append(g.length).append(':');
            for (int i = 0; i < g.length * g.length; i++) {
                int a = i / g.length;
                int b = i % g.length;
                boolean both = a != b && g[a][b] && g[b][a];
                String line = a + (both ? "-" : ">") + b;
                want.append(g[a][b] && (a < b || !both) ? line : "");
            }
            NetMaps x = holding(g);
            due("letter(0, -1) of " + text(g), x.letter(0, NONE), want.length());
            for (int k = 0; k < want.length(); k++) {
                due("letter(0, " + k + ") of " + text(g), x.letter(0, k), want.charAt(k));
            }
            due("letter(0, " + want.length() + ")", x.letter(0, want.length()), -3);
            // It is a text, and tells the same network.
            due("net of it", told(x, 1, want.toString()), lines(g));
            dueSquare("net of it", x, 1, g);
        }
    }

    // ---- kept

    private static void kept() {
        test(43, "DRAWERS, LISTS and WEIGHTS are kept: how many states are");
        test(44, "All is as it was kept last (that state is gone): how many are left");
        NetMaps x = new NetMaps();
        for (int i = 1; i <= 10; i++) {
            x.put(i % 6, 1 + i % 7);
            x.list(i % 7, i);
            x.weigh(i % 7, i % 10);
            due("keep()", x.keep(), i);
            due("count(2)", x.count(2), i);
        }
        due("keep(), ten are", x.keep(), NONE);
        for (int d = 0; d <= 5; d++) {
            x.take(d);
        }
        for (int left = 9; left >= 0; left--) {
            due("undo()", x.undo(), left);
            due("count(2)", x.count(2), left);
            for (int d = 0; d <= 5; d++) {
                int last = last(left + 1, d, 6);
                due("drawer " + d + ", left " + left, x.told(d, 0), last == 0 ? EMPTY : 1 + last % 7);
            }
            for (int a = 0; a <= 6; a++) {
                int last = last(left + 1, a, 7);
                due("list " + a + ", left " + left, x.count(10 + a), last == 0 ? 127 : last);
                due("weight " + a + ", left " + left, x.count(20 + a), last % 10);
            }
        }
        due("undo(), none is", x.undo(), NONE);
    }

    /** The last number from 1 to i that leaves this rest; 0 if there is none. */
    private static int last(int i, int rest, int modulo) {
        for (int last = i; last > 0; last--) {
            if (last % modulo == rest) {
                return last;
            }
        }
        return 0;
    }
}

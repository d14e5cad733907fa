/** Boundary cases of promises 27 to 30: retractions, cores, maps beside maps. */
public final class BoundsOfCoresTest extends Bounds {
    public static void main(String[] args) {
        promise27();
        promise27Refused();
        promise28();
        promise28Refused();
        promise29();
        promise29Many();
        promise29Refused();
        promise30();
        promise30Many();
        promise30Refused();
        end(27, 30);
    }

    /** Of five nodes into five, by lists 5 * 5 * 5 * 4 * 4 maps: 2000. */
    private static NetMaps most() {
        NetMaps x = with("5:", "5:");
        x.list(3, 15);
        x.list(4, 30);
        return x;
    }

    /** Of drawer 0 into drawer 1 2001 maps. */
    private static NetMaps beyond() {
        return with("6:0>2 0>3 0>5 2>1 3>4 5>1", "4:0>0 0-1 0-3 1>1 1-2 1-3 2>0 2>2 3>2 3>3");
    }

    private static void dueCore(String name, NetMaps x, int d, int... want) {
        for (int what = 0; what <= 3; what++) {
            due(name + ", core(" + d + ", " + what + ")", x.core(d, what), want[what]);
        }
    }

    private static void promise27() {
        test(27, "RETRACTIONS of a DRAWER, what 0 how many, 1 the NODES (bits) of THE CORE, 2 how many NODES it has");
        int[] many = {1, 3, 10, 41, 196, 1057, 6322};
        for (int n = 1; n <= 7; n++) {
            NetMaps x = new NetMaps();
            x.put(0, n);
            dueCore("no lines", x, 0, many[n - 1], 1, 1, (1 << n) - 1);
            x.change(0, 2);
            dueCore("all but loops", x, 0, 1, (1 << n) - 1, n, 1);
            x.change(0, 3);
            dueCore("all lines", x, 0, many[n - 1], 1, 1, (1 << n) - 1);
        }
        NetMaps x = with(RING7, "7:6>6", "7:0>1 1>2 2>3 3>4 4>5 5>6", K2);
        dueCore("a ring", x, 0, 1, 127, 7, 1);
        // k of six nodes stay beside the loop, the others become one of k + 1: 1 + 192 + 1215 + 1280 + 375 + 36 + 1.
        dueCore("a loop at the end", x, 1, 3100, 64, 1, 64);
        dueCore("a chain", x, 2, 1, 127, 7, 1);
        dueCore("a line both ways", x, 3, 1, 3, 2, 1);
        test(27, "THE CORE: the fewest NODES that some RETRACTION becomes; of like ones the least bits");
        NetMaps least = with("4:0-1 2-3", "4:2-3 1>0", "7:5>5 6>6", "3:0-1 2>2", "7:1-2 3-4 5-6", "5:0-1 1-2 2-3 3-4");
        due("of two the least", least.core(0, 1), 3);
        due("the least would do less", least.core(1, 1), 12);
        due("of two loops the least", least.core(2, 1), 32);
        due("fewer with more bits", least.core(3, 1), 4);
        due("of three the least", least.core(4, 1), 6);
        due("a path's first line", least.core(5, 1), 3);
        test(27, "A RETRACTION: a MAP (no LISTS) of G into itself");
        for (int what = 0; what <= 3; what++) {
            int told = what;
            int want = new int[] {1, 3, 2, 1}[what];
            stays(Bounds::listless, "core(0, " + what + ")", y -> y.core(0, told), want);
        }
    }

    private static void promise27Refused() {
        test(27, "-2: empty");
        asksAtEnds(Bounds::rich, "core(5, #)", 0, 3, (x, what) -> x.core(5, what), EMPTY);
        test(27, "NONE: no such ones");
        refusesOutside(Bounds::rich, "core(0, #)", 0, 3, (x, what) -> x.core(0, what), NONE);
        refusesOutside(Bounds::rich, "core(#, 0)", 0, 5, (x, d) -> x.core(d, 0), NONE);
        asksAtEnds(Bounds::rich, "core(3, #)", 0, 3, (x, what) -> x.core(3, what), 6322, 127);
        test(27, "Of several reasons NONE comes first, then -2");
        refusesOutside(Bounds::rich, "core(5, #)", 0, 3, (x, what) -> x.core(5, what), NONE);
    }

    private static void promise28() {
        test(28, "What NODE a becomes by RETRACTION k (as MAPS are numbered)");
        NetMaps x = fullAndBare();
        told(x, 2, RING7);
        told(x, 3, ONE);
        told(x, 4, "2:");
        for (int a = 0; a < 7; a++) {
            due("the first", x.retraction(0, 0, a), 0);
            due("the last", x.retraction(1, 6321, a), 6);
            due("the one", x.retraction(2, 0, a), a);
        }
        due("one node", x.retraction(3, 0, 0), 0);
        int[][] two = {{0, 0}, {0, 1}, {1, 1}};
        for (int k = 0; k < 3; k++) {
            due("retraction(4, " + k + ", 0)", x.retraction(4, k, 0), two[k][0]);
            due("retraction(4, " + k + ", 1)", x.retraction(4, k, 1), two[k][1]);
        }
        stays(Bounds::listless, "retraction(0, 0, 1), no lists", y -> y.retraction(0, 0, 1), 1);
        test(28, "-3: not so many");
        stays(Bounds::fullAndBare, "retraction(0, 6322, 0)", y -> y.retraction(0, 6322, 0), -3);
        stays(Bounds::fullAndBare, "retraction(1, 6322, 6)", y -> y.retraction(1, 6322, 6), -3);
        stays(Bounds::fullAndBare, "retraction(1, MAX, 6)", y -> y.retraction(1, GREATEST, 6), -3);
        stays(Bounds::rich, "retraction(1, 1, 0)", y -> y.retraction(1, 1, 0), -3);
        stays(Bounds::rich, "retraction(4, 1, 0)", y -> y.retraction(4, 1, 0), -3);
        due("one behind the last of two", x.retraction(4, 3, 0), -3);
    }

    private static void promise28Refused() {
        test(28, "NONE: no such ones (k below 0)");
        for (int k : new int[] {-1, LEAST}) {
            stays(Bounds::rich, "retraction(0, " + k + ", 0)", x -> x.retraction(0, k, 0), NONE);
            stays(Bounds::rich, "retraction(5, " + k + ", 0)", x -> x.retraction(5, k, 0), NONE);
        }
        refusesOutside(Bounds::rich, "retraction(#, 0, 0)", 0, 5, (x, d) -> x.retraction(d, 0, 0), NONE);
        refusesOutside(Bounds::rich, "retraction(0, 0, #)", 0, 1, (x, a) -> x.retraction(0, 0, a), NONE);
        refusesOutside(Bounds::rich, "retraction(3, 0, #)", 0, 6, (x, a) -> x.retraction(3, 0, a), NONE);
        asksAtEnds(Bounds::rich, "retraction(0, 0, #)", 0, 1, (x, a) -> x.retraction(0, 0, a), 0, 1);
        test(28, "-2: empty");
        asksAtEnds(Bounds::rich, "retraction(5, 0, #)", 0, 6, (x, a) -> x.retraction(5, 0, a), EMPTY);
        stays(Bounds::rich, "retraction(5, MAX, 0)", x -> x.retraction(5, GREATEST, 0), EMPTY);
        test(28, "Of several reasons NONE comes first, then -2, and so on");
        refusesOutside(Bounds::rich, "retraction(5, 0, #)", 0, 6, (x, a) -> x.retraction(5, 0, a), NONE);
        refusesOutside(Bounds::rich, "retraction(0, 1, #)", 0, 1, (x, a) -> x.retraction(0, 1, a), NONE);
    }

    private static void promise29() {
        test(29, "THE STEPS from MAP k to MAP l (by LISTS)");
        NetMaps x = with(K2, K3, "7:", LOOP, "2:");
        for (int k = 0; k < 6; k++) {
            due("no steps to itself", x.steps(0, 1, k, k), 0);
        }
        // The six maps stand in a ring: 01, 02, 12, 10, 20, 21, as the numbers 0, 1, 3, 2, 4, 5.
        int[] ring = {0, 1, 3, 2, 4, 5};
        for (int i = 0; i < 6; i++) {
            for (int j = 0; j < 6; j++) {
                int far = Math.abs(i - j);
                due("steps in a ring of six", x.steps(0, 1, ring[i], ring[j]), Math.min(far, 6 - far));
            }
        }
        due("one map", x.steps(3, 3, 0, 0), 0);
        for (int a = 0; a <= 6; a++) {
            x.list(a, 3);
        }
        due("seven steps", x.steps(2, 2, 0, 127), 7);
        due("seven steps back", x.steps(2, 4, 127, 0), 7);
        due("one step", x.steps(2, 4, 127, 63), 1);
        test(29, "-4: there are none");
        stays(Bounds::rich, "steps(1, 1, 0, 5)", y -> y.steps(1, 1, 0, 5), -4);
        stays(Bounds::rich, "steps(1, 1, 5, 0)", y -> y.steps(1, 1, 5, 0), -4);
        stays(Bounds::rich, "steps(0, 0, 0, 1)", y -> y.steps(0, 0, 0, 1), -4);
        World cut = () -> {
            NetMaps y = rich();
            y.list(0, 3);
            y.list(1, 3);
            return y;
        };
        stays(cut, "steps(0, 1, 0, 1), lists cut the ring", y -> y.steps(0, 1, 0, 1), -4);
        stays(cut, "steps(0, 1, 0, 2)", y -> y.steps(0, 1, 0, 2), -3);
    }

    private static void promise29Many() {
        test(29, "-3: more than 2000 MAPS");
        stays(BoundsOfCoresTest::most, "maps(0, 1, 0)", x -> x.maps(0, 1, 0), 2000);
        stays(BoundsOfCoresTest::most, "steps(0, 1, 0, 1999)", x -> x.steps(0, 1, 0, 1999), 5);
        stays(BoundsOfCoresTest::most, "steps(0, 1, 1999, 0)", x -> x.steps(0, 1, 1999, 0), 5);
        stays(BoundsOfCoresTest::most, "steps(0, 1, 1999, 1999)", x -> x.steps(0, 1, 1999, 1999), 0);
        stays(BoundsOfCoresTest::beyond, "maps(0, 1, 0)", x -> x.maps(0, 1, 0), 2001);
        stays(BoundsOfCoresTest::beyond, "steps(0, 1, 0, 0)", x -> x.steps(0, 1, 0, 0), -3);
        stays(BoundsOfCoresTest::beyond, "steps(0, 1, 2000, 2000)", x -> x.steps(0, 1, 2000, 2000), -3);
        stays(Bounds::fullAndBare, "steps(0, 0, 0, 0)", x -> x.steps(0, 0, 0, 0), -3);
        stays(Bounds::fullAndBare, "steps(1, 0, 823542, 0)", x -> x.steps(1, 0, 823542, 0), -3);
        test(29, "not so many as k, l");
        for (int k : new int[] {2000, 2001, GREATEST}) {
            stays(BoundsOfCoresTest::most, "steps(0, 1, " + k + ", 0)", x -> x.steps(0, 1, k, 0), -3);
            stays(BoundsOfCoresTest::most, "steps(0, 1, 0, " + k + ")", x -> x.steps(0, 1, 0, k), -3);
            stays(BoundsOfCoresTest::most, "steps(0, 1, " + k + ", " + k + ")", x -> x.steps(0, 1, k, k), -3);
        }
        for (int k : new int[] {6, 7, GREATEST}) {
            stays(Bounds::rich, "steps(1, 1, " + k + ", 0)", x -> x.steps(1, 1, k, 0), -3);
            stays(Bounds::rich, "steps(1, 1, 0, " + k + ")", x -> x.steps(1, 1, 0, k), -3);
        }
        stays(Bounds::rich, "steps(1, 0, 0, 0), no maps at all", x -> x.steps(1, 0, 0, 0), -3);
        stays(Bounds::listless, "steps(0, 1, 0, 0), none by lists", x -> x.steps(0, 1, 0, 0), -3);
    }

    private static void promise29Refused() {
        test(29, "-2: one is empty");
        stays(Bounds::rich, "steps(5, 0, 0, 0)", x -> x.steps(5, 0, 0, 0), EMPTY);
        stays(Bounds::rich, "steps(0, 5, 0, 0)", x -> x.steps(0, 5, 0, 0), EMPTY);
        stays(Bounds::rich, "steps(0, 5, MAX, MAX)", x -> x.steps(0, 5, GREATEST, GREATEST), EMPTY);
        test(29, "NONE: no such ones (k, l below 0)");
        for (int k : new int[] {-1, LEAST}) {
            stays(Bounds::rich, "steps(0, 1, " + k + ", 0)", x -> x.steps(0, 1, k, 0), NONE);
            stays(Bounds::rich, "steps(0, 1, 0, " + k + ")", x -> x.steps(0, 1, 0, k), NONE);
            stays(Bounds::rich, "steps(5, 1, 0, " + k + ")", x -> x.steps(5, 1, 0, k), NONE);
            stays(Bounds::rich, "steps(3, 3, " + k + ", 0)", x -> x.steps(3, 3, k, 0), NONE);
        }
        refusesOutside(Bounds::rich, "steps(#, 1, 0, 0)", 0, 5, (x, d) -> x.steps(d, 1, 0, 0), NONE);
        refusesOutside(Bounds::rich, "steps(0, #, 0, 0)", 0, 5, (x, e) -> x.steps(0, e, 0, 0), NONE);
        test(29, "Of several reasons NONE comes first, then -2, and so on");
        refusesOutside(Bounds::rich, "steps(#, 5, 0, 0)", 0, 5, (x, d) -> x.steps(d, 5, 0, 0), NONE);
        refusesOutside(Bounds::rich, "steps(5, #, 0, 0)", 0, 5, (x, e) -> x.steps(5, e, 0, 0), NONE);
        stays(Bounds::rich, "steps(0, 1, 6, -1)", x -> x.steps(0, 1, 6, -1), NONE);
        stays(Bounds::rich, "steps(0, 1, -1, 6)", x -> x.steps(0, 1, -1, 6), NONE);
    }

    private static void dueCrowds(String name, World world, int d, int e, int... want) {
        for (int what = 0; what <= 3; what++) {
            int told = what;
            stays(world, name + ", crowds(" + d + ", " + e + ", " + what + ")", x -> x.crowds(d, e, told), want[what]);
        }
    }

    private static void promise30() {
        test(30, "what 0 FROZEN ones, 1 crowds that hang together by steps, 2 the greatest such crowd");
        dueCrowds("no maps", Bounds::rich, 1, 0, 0, 0, 0, 0);
        dueCrowds("no maps by lists", Bounds::listless, 0, 1, 0, 0, 0, 0);
        dueCrowds("one map", Bounds::rich, 4, 4, 1, 1, 1, 0);
        dueCrowds("two frozen ones", Bounds::rich, 0, 0, 2, 2, 1, 0);
        dueCrowds("all frozen", Bounds::rich, 1, 1, 6, 6, 1, 0);
        dueCrowds("a ring of six", Bounds::rich, 0, 1, 0, 1, 6, 6);
        dueCrowds("seven nodes into a loop", Bounds::rich, 3, 4, 1, 1, 1, 0);
        World lists = () -> {
            NetMaps x = with("7:", "2:");
            for (int a = 0; a <= 6; a++) {
                x.list(a, a < 5 ? 1 : 3);
            }
            return x;
        };
        dueCrowds("a square", lists, 0, 1, 0, 1, 4, 4);
        World parts = () -> {
            NetMaps x = with(K2, "4:0>0 2-3");
            x.list(0, 13);
            return x;
        };
        dueCrowds("three crowds", parts, 0, 1, 3, 3, 1, 0);
        World unlike = () -> with("2:0>1", "5:0>1 0>2 3>4");
        dueCrowds("one of two, one frozen", unlike, 0, 1, 1, 2, 2, 1);
        test(30, "BESIDE are two MAPS (by LISTS) that differ at just one NODE");
        World one = () -> with(ONE, "7:");
        dueCrowds("all beside all", one, 0, 1, 0, 1, 7, 21);
    }

    private static void promise30Many() {
        test(30, "-3: more than 2000");
        // Beside each are 4 + 4 + 4 + 3 + 3 others.
        dueCrowds("2000", BoundsOfCoresTest::most, 0, 1, 0, 1, 2000, 18000);
        dueCrowds("2001", BoundsOfCoresTest::beyond, 0, 1, -3, -3, -3, -3);
        dueCrowds("823543", Bounds::fullAndBare, 1, 0, -3, -3, -3, -3);
        World fewer = () -> {
            NetMaps x = beyond();
            x.list(1, 14);
            return x;
        };
        due("2000 or fewer by lists", fewer.made().crowds(0, 1, 1) > 0, true);
    }

    private static void promise30Refused() {
        test(30, "-2: one is empty");
        for (int what = 0; what <= 3; what++) {
            int told = what;
            stays(Bounds::rich, "crowds(5, 0, " + what + ")", x -> x.crowds(5, 0, told), EMPTY);
            stays(Bounds::rich, "crowds(0, 5, " + what + ")", x -> x.crowds(0, 5, told), EMPTY);
        }
        test(30, "NONE: no such ones");
        refusesOutside(Bounds::rich, "crowds(#, 1, 0)", 0, 5, (x, d) -> x.crowds(d, 1, 0), NONE);
        refusesOutside(Bounds::rich, "crowds(0, #, 0)", 0, 5, (x, e) -> x.crowds(0, e, 0), NONE);
        refusesOutside(Bounds::rich, "crowds(0, 1, #)", 0, 3, (x, what) -> x.crowds(0, 1, what), NONE);
        test(30, "Of several reasons NONE comes first, then -2, and so on");
        refusesOutside(Bounds::rich, "crowds(5, 0, #)", 0, 3, (x, what) -> x.crowds(5, 0, what), NONE);
        refusesOutside(Bounds::rich, "crowds(3, 3, #)", 0, 3, (x, what) -> x.crowds(3, 3, what), NONE);
        refusesOutside(Bounds::rich, "crowds(#, 5, 0)", 0, 5, (x, d) -> x.crowds(d, 5, 0), NONE);
    }
}

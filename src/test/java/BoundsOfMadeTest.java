/** Boundary cases of promises 10 to 13: networks that are made. */
public final class BoundsOfMadeTest extends Bounds {
    public static void main(String[] args) {
        promise10Sizes();
        promise10Lines();
        promise10Power();
        promise10Into();
        promise10Refused();
        promise11();
        promise11Core();
        promise11Refused();
        promise12();
        promise12Refused();
        promise13();
        promise13Draws();
        promise13Refused();
        end(10, 13);
    }

    /** An object with so many nodes in drawer 0, so many in drawer 1, and PATH in drawer 2. */
    private static World sizes(int one, int two) {
        return () -> {
            NetMaps x = new NetMaps();
            x.put(0, one);
            x.put(1, two);
            told(x, 2, PATH);
            x.list(0, 3);
            feed(x, "1:0>0 ", 0);
            x.keep();
            return x;
        };
    }

    private static void promise10Sizes() {
        test(10, "-3: it would have more than 7 NODES");
        for (int one = 1; one <= 7; one++) {
            for (int two = 1; two <= 7; two++) {
                dueNodes(one, two, 0, one + two);
                dueNodes(one, two, 1, one * two);
                dueNodes(one, two, 4, Math.pow(one, two));
            }
        }
        test(10, "they have not as many (of 2, 3)");
        for (int one = 1; one <= 7; one++) {
            for (int two = 1; two <= 7; two++) {
                dueNodes(one, two, 2, one == two ? one : 8);
                dueNodes(one, two, 3, one == two ? one : 8);
            }
        }
    }

    private static void dueNodes(int one, int two, int how, double nodes) {
        World world = sizes(one, two);
        String call = "make(0, 1, 2, " + how + ") of " + one + " and " + two;
        if (nodes > 7) {
            stays(world, call, x -> x.make(0, 1, 2, how), -3);
            return;
        }
        NetMaps x = world.made();
        // Without lines none come, but of a power, where nothing is to be kept.
        due(call, x.make(0, 1, 2, how), how == 4 ? (long) (nodes * nodes) : 0);
        due("nodes of " + call, x.told(2, 0), (long) nodes);
        due("drawer 0 stays", x.told(0, 0), one);
        due("drawer 1 stays", x.told(1, 0), two);
    }

    private static void promise10Lines() {
        test(10, "how 0 SUM, 1 PRODUCT");
        NetMaps x = with(LOOP, "6:0-5 5>5", "1:", "7:0>6 6>6", "2:0>1", "3:1>2 2>2");
        due("sum of one and six", x.make(0, 1, 2, 0), 4);
        dueText(x, 2, "7:0>01-66>6");
        due("sum of six and one", x.make(1, 0, 2, 0), 4);
        dueText(x, 2, "7:0-55>56>6");
        due("seven times a loop", x.make(3, 0, 2, 1), 2);
        dueText(x, 2, "7:0>66>6");
        due("a loop times seven", x.make(0, 3, 2, 1), 2);
        dueText(x, 2, "7:0>66>6");
        x.line(0, 0, 0, false);
        due("seven times one node without a line", x.make(3, 0, 2, 1), 0);
        dueText(x, 2, "7:");
        due("two times three, the second fastest", x.make(4, 5, 2, 1), 2);
        dueText(x, 2, "6:1>52>5");
        due("three times two, the second fastest", x.make(5, 4, 2, 1), 2);
        dueText(x, 2, "6:2>54>5");
        test(10, "2 NODES of d (as many as e's) with LINES of either, 3 with LINES of both");
        NetMaps y = fullAndBare();
        due("either of all and none", y.make(0, 1, 2, 2), 49);
        due("both of all and none", y.make(0, 1, 2, 3), 0);
        due("either of none", y.make(1, 1, 2, 2), 0);
        due("both of all", y.make(0, 0, 2, 3), 49);
        told(y, 3, ONE);
        told(y, 4, LOOP);
        due("either of one node", y.make(3, 4, 2, 2), 1);
        due("both of one node", y.make(3, 4, 2, 3), 0);
        dueText(y, 2, "1:");
    }

    private static void promise10Power() {
        test(10, "4 POWER of d by e");
        NetMaps x = with("7:0>6", LOOP, ONE, "2:0>1", "2:1>0");
        due("seven by a loop: its own lines", x.make(0, 1, 5, 4), 1);
        dueText(x, 5, "7:0>6");
        due("seven by one node: all lines", x.make(0, 2, 5, 4), 49);
        due("one loop by seven", x.make(1, 0, 5, 4), 1);
        dueText(x, 5, "1:0>0");
        due("one node by seven with a line", x.make(2, 0, 5, 4), 0);
        dueText(x, 5, "1:");
        test(10, "NODE 0's place slowest");
        // Row f is (f / 2, f % 2): a line f to g, where f's place 0 (e's line 0 to 1) is 0 and g's place 1 is 1.
        due("two by two", x.make(3, 3, 5, 4), 4);
        dueText(x, 5, "4:0>10>31>11>3");
        due("two by two turned", x.make(3, 4, 5, 4), 4);
        dueText(x, 5, "4:0>20>32>22>3");
    }

    private static void promise10Into() {
        test(10, "Into DRAWER f, of those in d and e");
        for (int f = 0; f <= 5; f++) {
            NetMaps x = with("2:0>1", "3:0>0 1>2", "1:", "7:0-1");
            due("make(0, 1, " + f + ", 0)", x.make(0, 1, f, 0), 3);
            dueText(x, f, "5:0>12>23>4");
            due("count(0)", x.count(0), 15 | 1 << f);
        }
        NetMaps x = with("2:0>1");
        due("of one drawer into itself", x.make(0, 0, 0, 1), 1);
        dueText(x, 0, "4:0>3");
        due("no more", x.make(0, 0, 0, 0), -3);
        dueText(x, 0, "4:0>3");
    }

    private static void promise10Refused() {
        test(10, "-2: d or e is empty");
        for (int how = 0; how <= 4; how++) {
            int made = how;
            stays(Bounds::rich, "make(5, 0, 1, " + how + ")", x -> x.make(5, 0, 1, made), EMPTY);
            stays(Bounds::rich, "make(0, 5, 1, " + how + ")", x -> x.make(0, 5, 1, made), EMPTY);
            stays(Bounds::rich, "make(5, 5, 5, " + how + ")", x -> x.make(5, 5, 5, made), EMPTY);
        }
        test(10, "NONE: no such ones");
        refusesOutside(Bounds::rich, "make(#, 1, 2, 0)", 0, 5, (x, d) -> x.make(d, 1, 2, 0), NONE);
        refusesOutside(Bounds::rich, "make(0, #, 2, 0)", 0, 5, (x, e) -> x.make(0, e, 2, 0), NONE);
        refusesOutside(Bounds::rich, "make(0, 1, #, 0)", 0, 5, (x, f) -> x.make(0, 1, f, 0), NONE);
        refusesOutside(Bounds::rich, "make(0, 0, 2, #)", 0, 4, (x, how) -> x.make(0, 0, 2, how), NONE);
        due("make(0, 1, 5, 0), the drawer made into may be empty", rich().make(0, 1, 5, 0), 8);
        due("make(0, 0, 5, 4)", rich().make(0, 0, 5, 4), 4);
        test(10, "Of several reasons NONE comes first, then -2, and so on");
        refusesOutside(Bounds::rich, "make(5, 0, #, 0)", 0, 5, (x, f) -> x.make(5, 0, f, 0), NONE);
        refusesOutside(Bounds::rich, "make(0, 5, 1, #)", 0, 4, (x, how) -> x.make(0, 5, 1, how), NONE);
        refusesOutside(Bounds::rich, "make(3, 3, #, 0)", 0, 5, (x, f) -> x.make(3, 3, f, 0), NONE);
        stays(Bounds::rich, "make(5, 3, 0, 2)", x -> x.make(5, 3, 0, 2), EMPTY);
        stays(Bounds::rich, "make(3, 5, 0, 1)", x -> x.make(3, 5, 0, 1), EMPTY);
    }

    private static void promise11() {
        test(11, "A DRAWER's NETWORK, how 0 turned (each LINE goes back), 1 both ways, 2 LINES where there were none");
        int[] ofFull = {49, 49, 7, 49, 42, 1, 49};
        int[] ofBare = {0, 0, 42, 7, 0, 0, 0};
        int[] ofLoop = {1, 1, 1, 1, 0, 1, 1};
        int[] ofOne = {0, 0, 0, 1, 0, 0, 0};
        int[] ofRing = {7, 14, 35, 14, 7, 7, 49};
        for (int how = 0; how <= 6; how++) {
            NetMaps x = fullAndBare();
            told(x, 2, LOOP);
            told(x, 3, ONE);
            told(x, 4, RING7);
            due("full, change " + how, x.change(0, how), ofFull[how]);
            due("bare, change " + how, x.change(1, how), ofBare[how]);
            due("loop, change " + how, x.change(2, how), ofLoop[how]);
            due("one node, change " + how, x.change(3, how), ofOne[how]);
            due("ring, change " + how, x.change(4, how), ofRing[how]);
            due("nodes of full", x.told(0, 0), how == 5 ? 1 : 7);
            due("nodes of bare", x.told(1, 0), how == 5 ? 1 : 7);
            due("nodes of the ring", x.told(4, 0), 7);
        }
        test(11, "(LOOPS as they are)");
        NetMaps x = with("3:0>0 0>1 2-1");
        due("change(0, 2)", x.change(0, 2), 4);
        dueText(x, 0, "3:0>00-21>0");
        due("change(0, 2) again", x.change(0, 2), 4);
        dueText(x, 0, "3:0>00>11-2");
        test(11, "6 a LINE to where a WAY leads: its LINES then");
        NetMaps way = with("7:0>1 1>2 2>3 3>4 4>5 5>6", "7:6>6 0>1", "7:6>0 0>6");
        due("a chain", way.change(0, 6), 21);
        due("what is there already", way.change(1, 6), 2);
        dueText(way, 1, "7:0>16>6");
        due("to and fro", way.change(2, 6), 4);
        dueText(way, 2, "7:0>00-66>6");
    }

    private static void promise11Core() {
        test(11, "5 THE CORE");
        NetMaps x = with(K3, "4:0-1 2-3", "4:2-3 1>0", "3:0-1 2>2", "7:", "7:5>5 6>6");
        due("it is its own core", x.change(0, 5), 6);
        dueText(x, 0, "3:0-10-21-2");
        due("of like ones the least bits", x.change(1, 5), 2);
        dueText(x, 1, "2:0-1");
        due("fewer nodes", x.change(3, 5), 1);
        dueText(x, 3, "1:0>0");
        due("no lines", x.change(4, 5), 0);
        dueText(x, 4, "1:");
        due("a loop", x.change(5, 5), 1);
        dueText(x, 5, "1:0>0");
        due("the core's core", x.change(3, 5), 1);
        dueText(x, 3, "1:0>0");
    }

    private static void promise11Refused() {
        test(11, "-2: empty");
        for (int how = 0; how <= 6; how++) {
            int made = how;
            stays(Bounds::rich, "change(5, " + how + ")", x -> x.change(5, made), EMPTY);
        }
        test(11, "NONE: no such ones");
        refusesOutside(Bounds::rich, "change(2, #)", 0, 6, (x, how) -> x.change(2, how), NONE);
        refusesOutside(Bounds::rich, "change(#, 0)", 0, 5, (x, d) -> x.change(d, 0), NONE);
        due("change(2, 0)", rich().change(2, 0), 2);
        due("change(2, 6)", rich().change(2, 6), 3);
        test(11, "Of several reasons NONE comes first, then -2");
        refusesOutside(Bounds::rich, "change(5, #)", 0, 6, (x, how) -> x.change(5, how), NONE);
    }

    private static void promise12() {
        test(12, "DRAWER e becomes PART of d by some NODES: its LINES");
        NetMaps x = fullAndBare();
        told(x, 2, RING7);
        due("one node", x.part(2, 1, 5), 0);
        dueText(x, 5, "1:");
        due("the last node", x.part(2, 64, 5), 0);
        dueText(x, 5, "1:");
        due("the last node, with a loop", x.part(0, 64, 5), 1);
        dueText(x, 5, "1:0>0");
        due("all nodes", x.part(2, 127, 5), 7);
        dueText(x, 5, "7:0>11>22>33>44>55>66>0");
        due("all but the first", x.part(2, 126, 5), 5);
        dueText(x, 5, "6:0>11>22>33>44>5");
        due("all but the last", x.part(2, 63, 5), 5);
        dueText(x, 5, "6:0>11>22>33>44>5");
        due("first and last", x.part(2, 65, 5), 1);
        dueText(x, 5, "2:1>0");
        due("d stays", x.told(2, 1), 7);
        due("into itself", x.part(2, 97, 2), 2);
        dueText(x, 2, "3:1>22>0");
        test(12, "numbered anew, and all LINES between them");
        NetMaps y = with("6:0>5 5>2 2>2 2>3 3>5 4-0");
        due("three", y.part(0, 37, 0), 3);
        dueText(y, 0, "3:0>21>12>1");
    }

    private static void promise12Refused() {
        test(12, "-2: d is empty");
        for (int some : new int[] {1, 127}) {
            stays(Bounds::rich, "part(5, " + some + ", 0)", x -> x.part(5, some, 0), EMPTY);
        }
        test(12, "-3: none of them");
        stays(Bounds::rich, "part(0, 0, 1)", x -> x.part(0, 0, 1), -3);
        stays(Bounds::rich, "part(3, 0, 3)", x -> x.part(3, 0, 3), -3);
        test(12, "or some that it has not");
        refusesOutside(Bounds::rich, "part(0, #, 1)", 1, 3, (x, some) -> x.part(0, some, 1), -3);
        refusesOutside(Bounds::rich, "part(1, #, 1)", 1, 7, (x, some) -> x.part(1, some, 1), -3);
        refusesOutside(Bounds::rich, "part(3, #, 1)", 1, 127, (x, some) -> x.part(3, some, 1), -3);
        refusesOutside(Bounds::rich, "part(4, #, 1)", 1, 1, (x, some) -> x.part(4, some, 1), -3);
        for (int some : new int[] {-1, 5, 7, LEAST + 1, GREATEST - 4, 1 << 7, 1 << 30}) {
            stays(Bounds::rich, "part(0, " + some + ", 1)", x -> x.part(0, some, 1), -3);
        }
        due("part(0, 3, 1)", rich().part(0, 3, 1), 2);
        due("part(4, 1, 5)", rich().part(4, 1, 5), 1);
        test(12, "NONE: no such DRAWERS");
        refusesOutside(Bounds::rich, "part(#, 1, 1)", 0, 5, (x, d) -> x.part(d, 1, 1), NONE);
        refusesOutside(Bounds::rich, "part(0, 1, #)", 0, 5, (x, e) -> x.part(0, 1, e), NONE);
        test(12, "Of several reasons NONE comes first, then -2, and so on");
        refusesOutside(Bounds::rich, "part(5, 0, #)", 0, 5, (x, e) -> x.part(5, 0, e), NONE);
        refusesOutside(Bounds::rich, "part(0, 0, #)", 0, 5, (x, e) -> x.part(0, 0, e), NONE);
        refusesOutside(Bounds::rich, "part(5, #, 1)", 1, 127, (x, some) -> x.part(5, some, 1), EMPTY);
        stays(Bounds::rich, "part(5, 0, 1)", x -> x.part(5, 0, 1), EMPTY);
    }

    private static void promise13() {
        test(13, "DRAWN into d by a seed: n NODES");
        NetMaps x = rich();
        for (int n = 1; n <= 7; n++) {
            due("no tenths", x.drawn(5, n, n, 0), 0);
            due("all tenths", x.drawn(5, n, n, 10), n * (n - 1));
            due("nodes", x.told(5, 0), n);
            due("loops (no draw)", x.told(5, 2), 0);
        }
        due("one node", x.drawn(0, 1, GREATEST, 10), 0);
        dueText(x, 0, "1:");
        test(13, "a DRAW below tenths (0 to 10)");
        // The first draw by the seed 0 is 13849 / 4 = 3462, modulo 10: 2.
        x.drawn(0, 2, 0, 2);
        due("not below 2", x.row(0, 0, true), 0);
        x.drawn(0, 2, 0, 3);
        due("below 3", x.row(0, 0, true), 2);
        for (int tenths = 0; tenths <= 10; tenths++) {
            due("drawn of seven, tenths " + tenths, x.drawn(0, 7, 2026, tenths), lines(7, 2026, tenths));
        }
    }

    /** Lines of drawn networks, by the words of the document over again. */
    private static int lines(int n, int seed, int tenths) {
        long number = Math.floorMod((long) seed, 65536L);
        int lines = 0;
        for (int draw = 0; draw < n * n - n; draw++) {
            number = (25173 * number + 13849) % 65536;
            lines += number / 4 % 10 < tenths ? 1 : 0;
        }
        return lines;
    }

    private static void promise13Draws() {
        test(13, "X = (25173 X + 13849) modulo 65536");
        NetMaps x = new NetMaps();
        // By the seed 0: 13849, then 25173 * 13849 + 13849 = 348634726, modulo 65536 48742: the draws 2 and 5.
        due("drawn", x.drawn(0, 2, 0, 3), 1);
        dueText(x, 0, "2:0>1");
        due("drawn", x.drawn(0, 2, 0, 5), 1);
        due("drawn", x.drawn(0, 2, 0, 6), 2);
        test(13, "(X is the lowest 16 bits of the seed at first)");
        int[] alike = {0, 65536, -65536, LEAST, 1 << 16, 1 << 30, 7 << 20};
        for (int seed : alike) {
            due("drawn by " + seed, x.drawn(0, 7, seed, 5), lines(7, 0, 5));
            due("drawn by 0", x.drawn(1, 7, 0, 5), lines(7, 0, 5));
            dueText(x, 0, text(x, 1));
            x = new NetMaps();
        }
        for (int seed : new int[] {-1, 65535, GREATEST, LEAST - 1, 131071}) {
            due("drawn by " + seed, x.drawn(0, 7, seed, 5), lines(7, 65535, 5));
            due("drawn by 65535", x.drawn(1, 7, 65535, 5), lines(7, 65535, 5));
            dueText(x, 0, text(x, 1));
            x = new NetMaps();
        }
        test(13, "for a from 0, b from 0 (the last fastest)");
        for (int seed : new int[] {0, 1, 65535, GREATEST, LEAST}) {
            x = new NetMaps();
            x.drawn(0, 7, seed, 4);
            long number = Math.floorMod((long) seed, 65536L);
            for (int a = 0; a < 7; a++) {
                int row = 0;
                for (int b = 0; b < 7; b++) {
                    if (a != b) {
                        number = (25173 * number + 13849) % 65536;
                        row |= number / 4 % 10 < 4 ? 1 << b : 0;
                    }
                }
                due("row " + a + " by " + seed, x.row(0, a, true), row);
            }
        }
    }

    private static void promise13Refused() {
        test(13, "NONE: no such ones");
        refusesOutside(Bounds::rich, "drawn(#, 3, 1, 5)", 0, 5, (x, d) -> x.drawn(d, 3, 1, 5), NONE);
        refusesOutside(Bounds::rich, "drawn(0, #, 1, 5)", 1, 7, (x, n) -> x.drawn(0, n, 1, 5), NONE);
        refusesOutside(Bounds::rich, "drawn(0, 3, 1, #)", 0, 10, (x, tenths) -> x.drawn(0, 3, 1, tenths), NONE);
        refusesOutside(Bounds::rich, "drawn(5, 3, 1, #)", 0, 10, (x, tenths) -> x.drawn(5, 3, 1, tenths), NONE);
        due("drawn(5, 7, 1, 10)", rich().drawn(5, 7, 1, 10), 42);
        due("drawn(0, 1, 1, 0)", rich().drawn(0, 1, 1, 0), 0);
    }
}

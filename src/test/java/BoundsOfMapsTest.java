/** Boundary cases of promises 14 to 26: lists, weights and maps by them. */
public final class BoundsOfMapsTest extends Bounds {
    public static void main(String[] args) {
        promise14();
        promise15();
        promise16Bare();
        promise16Lines();
        promise16Lists();
        promise16Refused();
        promise17();
        promise17Refused();
        promise18();
        promise18Refused();
        promise19();
        promise19Refused();
        promise20();
        promise21();
        promise22();
        promise22Refused();
        promise23();
        promise23Refused();
        promise24();
        promise25();
        promise25Refused();
        promise26();
        promise26Refused();
        end(14, 26);
    }

    private static void promise14() {
        test(14, "LIST of NODE number a (0 to 6) is so from now on (bits 0 to 127): what it was");
        NetMaps x = new NetMaps();
        for (int a = 0; a <= 6; a++) {
            due("list(" + a + ", 0)", x.list(a, 0), 127);
            due("count", x.count(10 + a), 0);
            due("list(" + a + ", 127)", x.list(a, 127), 0);
            due("list(" + a + ", 64)", x.list(a, 64), 127);
            due("list(" + a + ", 1)", x.list(a, 1), 64);
            due("list(" + a + ", 1) again", x.list(a, 1), 1);
            due("count", x.count(10 + a), 1);
        }
        test(14, "NONE: no such ones");
        refusesOutside(Bounds::rich, "list(#, 5)", 0, 6, (y, a) -> y.list(a, 5), NONE);
        refusesOutside(Bounds::rich, "list(0, #)", 0, 127, (y, some) -> y.list(0, some), NONE);
        refusesOutside(Bounds::rich, "list(6, #)", 0, 127, (y, some) -> y.list(6, some), NONE);
        refusesOutside(Bounds::rich, "list(#, 128)", 0, 6, (y, a) -> y.list(a, 128), NONE);
        stays(Bounds::rich, "list(0, 256)", y -> y.list(0, 256), NONE);
        test(14, "(bits; all at first; those of NODES that G has not, bits that H has not count for nothing)");
        NetMaps nothing = with(K2, K3);
        nothing.list(2, 0);
        nothing.list(6, 0);
        due("lists of nodes that d has not", nothing.maps(0, 1, 0), 6);
        nothing.list(0, 120);
        due("bits that e has not", nothing.maps(0, 1, 0), 0);
        nothing.list(0, 121);
        due("one that it has", nothing.maps(0, 1, 0), 2);
    }

    private static void promise15() {
        test(15, "All LISTS are all: how many were not");
        for (int many = 0; many <= 7; many++) {
            NetMaps x = new NetMaps();
            for (int a = 0; a < many; a++) {
                x.list(6 - a, a == 0 ? 0 : 126);
            }
            due("free() of " + many, x.free(), many);
            for (int a = 0; a <= 6; a++) {
                due("count(" + (10 + a) + ")", x.count(10 + a), 127);
            }
            due("free() again", x.free(), 0);
        }
        NetMaps x = new NetMaps();
        x.list(3, 127);
        due("a list that was told as all", x.free(), 0);
        x.put(0, 2);
        x.list(0, 3);
        due("all of a network's nodes are not all", x.free(), 1);
    }

    private static long power(int base, int exponent) {
        return exponent == 0 ? 1 : base * power(base, exponent - 1);
    }

    private static long oneToOne(int n, int m) {
        return n == 0 ? 1 : m == 0 ? 0 : m * oneToOne(n - 1, m - 1);
    }

    /** Maps of n nodes that reach all of m: the last node alone, or one with others, reaches what it reaches. */
    private static long onto(int n, int m) {
        return n == 0 ? m == 0 ? 1 : 0 : m == 0 ? 0 : m * (onto(n - 1, m) + onto(n - 1, m - 1));
    }

    private static void promise16Bare() {
        test(16, "(sort 0), of these: 1 no two NODES become one, 2 each NODE of e is one");
        NetMaps full = new NetMaps();
        for (int n = 1; n <= 7; n++) {
            for (int m = 1; m <= 7; m++) {
                NetMaps x = new NetMaps();
                x.put(0, n);
                x.put(1, m);
                String call = " of " + n + " into " + m;
                due("maps 0" + call, x.maps(0, 1, 0), power(m, n));
                due("maps 1" + call, x.maps(0, 1, 1), oneToOne(n, m));
                due("maps 2" + call, x.maps(0, 1, 2), onto(n, m));
                due("maps 3" + call, x.maps(0, 1, 3), onto(n, m));
                due("maps 4" + call, x.maps(0, 1, 4), n == m ? oneToOne(n, n) : 0);
                x.change(1, 2);
                due("maps 3 where there are lines" + call, x.maps(0, 1, 3), m == 1 ? 1 : 0);
                x.change(1, 3);
                due("maps 0 into all lines" + call, x.maps(0, 1, 0), power(m, n));
                due("maps 4 where there are lines" + call, x.maps(0, 1, 4), 0);
                x.change(0, 2);
                x.change(0, 3);
                due("maps 0 of all lines" + call, x.maps(0, 1, 0), power(m, n));
                due("maps 3 of all lines" + call, x.maps(0, 1, 3), onto(n, m));
                due("maps 4 of all lines" + call, x.maps(0, 1, 4), n == m ? oneToOne(n, n) : 0);
                x.change(1, 4);
                due("maps 0 of loops into none" + call, x.maps(0, 1, 0), 0);
            }
        }
        due("empty", full.maps(0, 1, 0), EMPTY);
    }

    private static void promise16Lines() {
        test(16, "3 each LINE of e, too, is one that a LINE became");
        NetMaps x = with("4:0>1 2>3", "2:0-1", "2:0>1", "3:0>1", "2:0>0 0>1", "2:0>1 1>1");
        due("two lines, two lines", x.maps(0, 1, 3), 2);
        due("one line more than lines", x.maps(2, 1, 3), 0);
        due("all nodes, not all lines", x.maps(2, 1, 2), 2);
        due("all lines, not all nodes", x.maps(2, 3, 3), 0);
        due("a loop that no line becomes", x.maps(2, 4, 2), 1);
        due("a loop that no line becomes", x.maps(2, 4, 3), 0);
        due("a loop that a line becomes", x.maps(0, 4, 3), 2);
        due("a loop that a line becomes", x.maps(0, 5, 3), 2);
        test(16, "not one LINE more: one to one, all NODES, a LINE just where one was");
        NetMaps y = with("2:0>1", "2:1>0", "2:0-1", "2:0>1 0>0", "3:0>1", "3:0>1 2>2");
        due("itself", y.maps(0, 0, 4), 1);
        due("turned", y.maps(0, 1, 4), 1);
        due("a line more", y.maps(0, 2, 4), 0);
        due("a line less", y.maps(2, 0, 4), 0);
        due("both ways", y.maps(2, 2, 4), 2);
        due("a loop more", y.maps(0, 3, 4), 0);
        due("a node more", y.maps(0, 4, 4), 0);
        due("a node less", y.maps(4, 0, 4), 0);
        due("as many nodes and lines", y.maps(3, 5, 4), 0);
        told(y, 4, "3:2>0 1>1");
        due("as many, in other places", y.maps(5, 4, 4), 1);
        told(y, 4, "3:2>0 0>0");
        due("as many, the loop elsewhere", y.maps(5, 4, 4), 0);
    }

    private static void promise16Lists() {
        test(16, "by LISTS");
        NetMaps x = with("3:", "3:0-1", LOOP, ONE);
        x.list(1, 0);
        for (int sort = 0; sort <= 3; sort++) {
            due("an empty list, sort " + sort, x.maps(0, 0, sort), 0);
        }
        test(16, "4 (no LISTS count)");
        due("sort 4", x.maps(0, 0, 4), 6);
        due("sort 4", x.maps(1, 1, 4), 2);
        x.list(0, 0);
        due("sort 4", x.maps(2, 2, 4), 1);
        due("a loop, or none", x.maps(2, 3, 4), 0);
        x.free();
        x.list(0, 1);
        x.list(1, 2);
        x.list(2, 4);
        for (int sort = 0; sort <= 2; sort++) {
            due("lists of one node, sort " + sort, x.maps(0, 0, sort), 1);
        }
        due("sort 4", x.maps(0, 0, 4), 6);
        x.list(2, 2);
        due("two become one", x.maps(0, 0, 0), 1);
        due("two become one", x.maps(0, 0, 1), 0);
        due("one is reached by none", x.maps(0, 0, 2), 0);
    }

    private static void promise16Refused() {
        test(16, "-2: one is empty");
        for (int sort = 0; sort <= 4; sort++) {
            int s = sort;
            stays(Bounds::rich, "maps(5, 0, " + sort + ")", x -> x.maps(5, 0, s), EMPTY);
            stays(Bounds::rich, "maps(0, 5, " + sort + ")", x -> x.maps(0, 5, s), EMPTY);
            stays(Bounds::rich, "maps(5, 5, " + sort + ")", x -> x.maps(5, 5, s), EMPTY);
        }
        test(16, "NONE: no such ones");
        refusesOutside(Bounds::rich, "maps(#, 0, 0)", 0, 5, (x, d) -> x.maps(d, 0, 0), NONE);
        refusesOutside(Bounds::rich, "maps(0, #, 0)", 0, 5, (x, e) -> x.maps(0, e, 0), NONE);
        refusesOutside(Bounds::rich, "maps(0, 0, #)", 0, 4, (x, sort) -> x.maps(0, 0, sort), NONE);
        asksAtEnds(Bounds::rich, "maps(1, 1, #)", 0, 4, (x, sort) -> x.maps(1, 1, sort), 6, 6);
        test(16, "Of several reasons NONE comes first, then -2");
        refusesOutside(Bounds::rich, "maps(5, 0, #)", 0, 4, (x, sort) -> x.maps(5, 0, sort), NONE);
        refusesOutside(Bounds::rich, "maps(5, #, 0)", 0, 5, (x, e) -> x.maps(5, e, 0), NONE);
        refusesOutside(Bounds::rich, "maps(#, 5, 0)", 0, 5, (x, d) -> x.maps(d, 5, 0), NONE);
    }

    private static void promise17() {
        test(17, "What NODE a becomes by MAP k by LISTS");
        NetMaps x = fullAndBare();
        for (int a = 0; a < 7; a++) {
            due("the first map", x.map(1, 0, 0, a), 0);
            due("the last map", x.map(1, 0, 823542, a), 6);
            due("22875 is 0123456 by sevens", x.map(0, 0, 22875, a), a);
        }
        due("the last but one", x.map(1, 1, 823541, 6), 5);
        test(17, "-3: there are not so many");
        stays(Bounds::fullAndBare, "map(1, 0, 823543, 0)", y -> y.map(1, 0, 823543, 0), -3);
        stays(Bounds::fullAndBare, "map(1, 0, MAX, 6)", y -> y.map(1, 0, GREATEST, 6), -3);
        stays(Bounds::fullAndBare, "map(0, 1, 0, 0), there are none", y -> y.map(0, 1, 0, 0), -3);
        stays(Bounds::rich, "map(0, 1, 5, 1)", y -> y.map(0, 1, 5, 1), 1);
        stays(Bounds::rich, "map(0, 1, 6, 1)", y -> y.map(0, 1, 6, 1), -3);
        stays(Bounds::rich, "map(0, 1, MAX, 1)", y -> y.map(0, 1, GREATEST, 1), -3);
        // Of seven nodes rich lists two for node 5 and one for node 6.
        stays(Bounds::rich, "map(3, 3, 33613, 5)", y -> y.map(3, 3, 33613, 5), 1);
        stays(Bounds::rich, "map(3, 3, 33614, 5)", y -> y.map(3, 3, 33614, 5), -3);
        stays(Bounds::listless, "map(0, 1, 0, 0)", y -> y.map(0, 1, 0, 0), -3);
        test(17, "rising by what NODE 0 becomes, then 1, and so on");
        NetMaps rising = with("3:", "2:");
        for (int k = 0; k < 8; k++) {
            for (int a = 0; a < 3; a++) {
                due("map(0, 1, " + k + ", " + a + ")", rising.map(0, 1, k, a), k >> 2 - a & 1);
            }
        }
    }

    private static void promise17Refused() {
        test(17, "NONE: no such ones (k below 0)");
        for (int k : new int[] {-1, LEAST}) {
            stays(Bounds::rich, "map(0, 1, " + k + ", 0)", x -> x.map(0, 1, k, 0), NONE);
        }
        refusesOutside(Bounds::rich, "map(#, 1, 0, 0)", 0, 5, (x, d) -> x.map(d, 1, 0, 0), NONE);
        refusesOutside(Bounds::rich, "map(0, #, 0, 0)", 0, 5, (x, e) -> x.map(0, e, 0, 0), NONE);
        refusesOutside(Bounds::rich, "map(0, 1, 0, #)", 0, 1, (x, a) -> x.map(0, 1, 0, a), NONE);
        refusesOutside(Bounds::rich, "map(3, 3, 0, #)", 0, 6, (x, a) -> x.map(3, 3, 0, a), NONE);
        asksAtEnds(Bounds::rich, "map(0, 1, 0, #)", 0, 1, (x, a) -> x.map(0, 1, 0, a), 0, 1);
        test(17, "-2: one is empty");
        asksAtEnds(Bounds::rich, "map(5, 0, 0, #)", 0, 6, (x, a) -> x.map(5, 0, 0, a), EMPTY);
        asksAtEnds(Bounds::rich, "map(0, 5, 0, #)", 0, 1, (x, a) -> x.map(0, 5, 0, a), EMPTY);
        stays(Bounds::rich, "map(0, 5, MAX, 0)", x -> x.map(0, 5, GREATEST, 0), EMPTY);
        test(17, "Of several reasons NONE comes first, then -2, and so on");
        refusesOutside(Bounds::rich, "map(5, 0, 0, #)", 0, 6, (x, a) -> x.map(5, 0, 0, a), NONE);
        refusesOutside(Bounds::rich, "map(0, 5, 0, #)", 0, 1, (x, a) -> x.map(0, 5, 0, a), NONE);
        refusesOutside(Bounds::rich, "map(0, 1, 6, #)", 0, 1, (x, a) -> x.map(0, 1, 6, a), NONE);
        stays(Bounds::rich, "map(5, 0, -1, 0)", x -> x.map(5, 0, -1, 0), NONE);
        stays(Bounds::rich, "map(5, 6, 0, 0)", x -> x.map(5, 6, 0, 0), NONE);
    }

    private static void promise18() {
        test(18, "MAPS by LISTS by which NODE a becomes x");
        NetMaps x = fullAndBare();
        due("seven into seven", x.becomes(1, 0, 0, 0), 117649);
        due("seven into seven", x.becomes(0, 0, 6, 6), 117649);
        due("there are none", x.becomes(0, 1, 6, 6), 0);
        x.list(6, 64);
        due("all", x.becomes(1, 1, 6, 6), 117649);
        due("not in the list", x.becomes(1, 1, 6, 5), 0);
        due("by another's list", x.becomes(1, 1, 0, 6), 16807);
        x.list(0, 0);
        due("an empty list", x.becomes(1, 1, 6, 6), 0);
        NetMaps one = with(LOOP, ONE);
        due("one into one", one.becomes(1, 0, 0, 0), 1);
        due("one into itself", one.becomes(0, 0, 0, 0), 1);
        due("a loop into none", one.becomes(0, 1, 0, 0), 0);
    }

    private static void promise18Refused() {
        test(18, "NONE: no such ones");
        refusesOutside(Bounds::rich, "becomes(#, 1, 0, 0)", 0, 5, (x, d) -> x.becomes(d, 1, 0, 0), NONE);
        refusesOutside(Bounds::rich, "becomes(0, #, 0, 0)", 0, 5, (x, e) -> x.becomes(0, e, 0, 0), NONE);
        refusesOutside(Bounds::rich, "becomes(0, 1, #, 0)", 0, 1, (x, a) -> x.becomes(0, 1, a, 0), NONE);
        refusesOutside(Bounds::rich, "becomes(0, 1, 0, #)", 0, 2, (x, b) -> x.becomes(0, 1, 0, b), NONE);
        refusesOutside(Bounds::rich, "becomes(3, 3, #, 0)", 0, 6, (x, a) -> x.becomes(3, 3, a, 0), NONE);
        refusesOutside(Bounds::rich, "becomes(3, 3, 0, #)", 0, 6, (x, b) -> x.becomes(3, 3, 0, b), NONE);
        asksAtEnds(Bounds::rich, "becomes(0, 1, #, 0)", 0, 1, (x, a) -> x.becomes(0, 1, a, 0), 2);
        asksAtEnds(Bounds::rich, "becomes(0, 1, 0, #)", 0, 2, (x, b) -> x.becomes(0, 1, 0, b), 2);
        test(18, "-2: one is empty");
        asksAtEnds(Bounds::rich, "becomes(5, 0, #, 1)", 0, 6, (x, a) -> x.becomes(5, 0, a, 1), EMPTY);
        asksAtEnds(Bounds::rich, "becomes(0, 5, 1, #)", 0, 6, (x, b) -> x.becomes(0, 5, 1, b), EMPTY);
        stays(Bounds::rich, "becomes(5, 5, 6, 6)", x -> x.becomes(5, 5, 6, 6), EMPTY);
        test(18, "whether a NODE is one of a NETWORK is asked only of one that is there (of others 0 to 6)");
        refusesOutside(Bounds::rich, "becomes(5, 0, #, 1)", 0, 6, (x, a) -> x.becomes(5, 0, a, 1), NONE);
        refusesOutside(Bounds::rich, "becomes(5, 0, 6, #)", 0, 1, (x, b) -> x.becomes(5, 0, 6, b), NONE);
        refusesOutside(Bounds::rich, "becomes(0, 5, #, 6)", 0, 1, (x, a) -> x.becomes(0, 5, a, 6), NONE);
        refusesOutside(Bounds::rich, "becomes(0, 5, 1, #)", 0, 6, (x, b) -> x.becomes(0, 5, 1, b), NONE);
    }

    private static void promise19() {
        test(19, "LEFT of LISTS for d into e: of NODE a (bits)");
        NetMaps x = fullAndBare();
        told(x, 2, "7:0>1 1>2 2>3 3>4 4>5 5>6");
        for (int a = 0; a < 7; a++) {
            due("nothing to take out", x.left(1, 1, a), 127);
            due("nothing to take out", x.left(0, 0, a), 127);
            due("all is taken out", x.left(0, 1, a), 0);
            due("a chain, one node after another", x.left(2, 2, a), 1 << a);
        }
        x.list(3, 0);
        for (int a = 0; a < 7; a++) {
            due("an empty list, no lines", x.left(1, 1, a), a == 3 ? 0 : 127);
            due("an empty list, all lines", x.left(0, 0, a), 0);
        }
        x.free();
        due("lists are not changed", x.left(1, 1, 3), 127);
        test(19, "again and again");
        // One goes out by another, all but node 6 of each list, round after round, however the lists are gone through.
        NetMaps again = with("7:0>11>11>22>22>33>44>55>66>06>6",
                "7:0>00>10>51>12>22>33>03>34>24>44>55>15>56>06>16>26>46>6");
        int[] lists = {126, 127, 119, 123, 111, 125, 95};
        for (int a = 0; a < 7; a++) {
            again.list(a, lists[a]);
        }
        for (int a = 0; a < 7; a++) {
            due("left(0, 1, " + a + ")", again.left(0, 1, a), 64);
        }
        due("how many went out", again.tighten(0, 1), 36);
        test(19, "(of a LOOP: what has no LOOP, too)");
        NetMaps loop = with(LOOP, "3:0-1 2>2", ONE, "3:0>1 1>0");
        due("what has no loop", loop.left(0, 1, 0), 4);
        due("none has", loop.left(0, 3, 0), 0);
        due("no loop asked for", loop.left(2, 1, 0), 7);
        loop.list(0, 3);
        due("not in the list", loop.left(0, 1, 0), 0);
        test(19, "bits that H has not count for nothing");
        loop.free();
        loop.list(0, 124);
        due("bits that e has not", loop.left(2, 1, 0), 4);
        due("all bits", loop.left(2, 2, 0), 0);
        loop.free();
        due("all bits", loop.left(2, 2, 0), 1);
    }

    private static void promise19Refused() {
        test(19, "NONE: no such ones");
        refusesOutside(Bounds::rich, "left(#, 1, 0)", 0, 5, (x, d) -> x.left(d, 1, 0), NONE);
        refusesOutside(Bounds::rich, "left(0, #, 0)", 0, 5, (x, e) -> x.left(0, e, 0), NONE);
        refusesOutside(Bounds::rich, "left(0, 1, #)", 0, 1, (x, a) -> x.left(0, 1, a), NONE);
        refusesOutside(Bounds::rich, "left(3, 1, #)", 0, 6, (x, a) -> x.left(3, 1, a), NONE);
        asksAtEnds(Bounds::rich, "left(3, 1, #)", 0, 6, (x, a) -> x.left(3, 1, a), 7, 1);
        test(19, "-2: one is empty");
        asksAtEnds(Bounds::rich, "left(5, 0, #)", 0, 6, (x, a) -> x.left(5, 0, a), EMPTY);
        asksAtEnds(Bounds::rich, "left(0, 5, #)", 0, 1, (x, a) -> x.left(0, 5, a), EMPTY);
        test(19, "Of several reasons NONE comes first, then -2");
        refusesOutside(Bounds::rich, "left(5, 0, #)", 0, 6, (x, a) -> x.left(5, 0, a), NONE);
        refusesOutside(Bounds::rich, "left(0, 5, #)", 0, 1, (x, a) -> x.left(0, 5, a), NONE);
        refusesOutside(Bounds::rich, "left(5, #, 0)", 0, 5, (x, e) -> x.left(5, e, 0), NONE);
    }

    private static void promise20() {
        test(20, "0 neither, 1 d FITS into e, 2 e into d, 3 both");
        NetMaps x = with(RING3, "4:0>1 1>2 2>3 3>0", "6:0>1 1>2 2>3 3>4 4>5 5>0", ONE, LOOP, "7:");
        due("neither", x.fits(0, 1), 0);
        due("into a ring half as long", x.fits(2, 0), 1);
        due("a ring half as long", x.fits(0, 2), 2);
        due("itself", x.fits(0, 0), 3);
        due("one node into all", x.fits(3, 2), 1);
        due("all into a loop", x.fits(4, 2), 2);
        due("nodes without lines", x.fits(3, 5), 3);
        test(20, "G FITS into H: there is a MAP (no LISTS)");
        stays(Bounds::listless, "fits(0, 1)", y -> y.fits(0, 1), 1);
        stays(Bounds::listless, "fits(0, 0)", y -> y.fits(0, 0), 3);
        test(20, "-2: one is empty");
        stays(Bounds::rich, "fits(5, 0)", y -> y.fits(5, 0), EMPTY);
        stays(Bounds::rich, "fits(0, 5)", y -> y.fits(0, 5), EMPTY);
        stays(Bounds::rich, "fits(5, 5)", y -> y.fits(5, 5), EMPTY);
        test(20, "NONE: no such ones");
        refusesOutside(Bounds::rich, "fits(#, 0)", 0, 5, (y, d) -> y.fits(d, 0), NONE);
        refusesOutside(Bounds::rich, "fits(0, #)", 0, 5, (y, e) -> y.fits(0, e), NONE);
        refusesOutside(Bounds::rich, "fits(5, #)", 0, 5, (y, e) -> y.fits(5, e), NONE);
        refusesOutside(Bounds::rich, "fits(#, 5)", 0, 5, (y, d) -> y.fits(d, 5), NONE);
    }

    private static void promise21() {
        test(21, "till a MAP stands, or all is tried: how many");
        NetMaps x = fullAndBare();
        told(x, 2, ONE);
        told(x, 3, LOOP);
        told(x, 4, RING7);
        told(x, 5, K2);
        due("one try", x.search(2, 2), 1);
        due("nothing may be tried of a loop", x.search(3, 2), 0);
        due("a node a try", x.search(0, 0), 7);
        due("a node a try", x.search(4, 4), 7);
        due("six tries by either beginning", x.search(4, 5), 12);
        due("nothing may be tried of all loops", x.search(0, 1), 0);
        x.list(6, 64);
        due("the last node's own", x.search(1, 1), 7);
        x.list(6, 0);
        due("all is tried", x.search(1, 1), 7 + 49 + 343 + 2401 + 16807 + 117649);
        due("all is tried, by lines", x.search(0, 0), 137256);
        x.list(0, 0);
        due("nothing to begin with", x.search(1, 1), 0);
        due("nothing to begin with", x.search(2, 2), 0);
        test(21, "each of what may be by its list and the LINES to, from those ahead, itself, rising");
        NetMaps back = with("2:1>0", "3:2>0 1>0", "2:1>1 0>1", "3:0>1 0>2 2>2");
        due("0 becomes 0, 1 becomes 1", back.search(0, 1), 2);
        // 0 becomes 0: of 1 and 2 only 2 has a loop.
        due("1 is not tried without a loop", back.search(2, 3), 2);
        back.list(0, 6);
        due("0 becomes 1, 0 becomes 2, nothing then", back.search(0, 1), 2);
        test(21, "-2: one is empty");
        stays(Bounds::rich, "search(5, 0)", y -> y.search(5, 0), EMPTY);
        stays(Bounds::rich, "search(0, 5)", y -> y.search(0, 5), EMPTY);
        stays(Bounds::rich, "search(0, 1)", y -> y.search(0, 1), 2);
        test(21, "NONE: no such ones");
        refusesOutside(Bounds::rich, "search(#, 0)", 0, 5, (y, d) -> y.search(d, 0), NONE);
        refusesOutside(Bounds::rich, "search(0, #)", 0, 5, (y, e) -> y.search(0, e), NONE);
        refusesOutside(Bounds::rich, "search(5, #)", 0, 5, (y, e) -> y.search(5, e), NONE);
        refusesOutside(Bounds::rich, "search(#, 5)", 0, 5, (y, d) -> y.search(d, 5), NONE);
    }

    private static void promise22() {
        test(22, "LISTS of all NODES of d become LEFT for d into e: how many NODES of e went out of them");
        NetMaps x = fullAndBare();
        due("nothing went out of all", x.tighten(0, 0), 0);
        due("count", x.count(16), 127);
        due("all went out of all", x.tighten(0, 1), 49);
        for (int a = 0; a < 7; a++) {
            due("count(" + (10 + a) + ")", x.count(10 + a), 0);
        }
        due("nothing more", x.tighten(0, 1), 0);
        due("empty lists stay so", x.tighten(1, 1), 0);
        due("free", x.free(), 7);
        told(x, 2, "7:0>1 1>2 2>3 3>4 4>5 5>6");
        due("all but one of each", x.tighten(2, 2), 42);
        for (int a = 0; a < 7; a++) {
            due("count(" + (10 + a) + ")", x.count(10 + a), 1 << a);
        }
        test(22, "LISTS of all NODES of d");
        NetMaps some = with("2:0>1", "3:", LOOP);
        some.list(2, 5);
        due("all of both", some.tighten(0, 1), 6);
        due("the node behind them", some.count(12), 5);
        due("the last node", some.count(16), 127);
        some.free();
        due("one node", some.tighten(2, 1), 3);
        due("its list", some.count(10), 0);
        due("the next one's", some.count(11), 127);
        test(22, "bits that H has not count for nothing");
        NetMaps bits = with("2:0>1", "2:0>1", ONE);
        bits.list(0, 126);
        bits.list(1, 124);
        due("one of one, none of the other", bits.tighten(0, 1), 1);
        due("count", bits.count(10), 0);
        due("count", bits.count(11), 0);
        bits.free();
        due("none of one node", bits.tighten(2, 2), 0);
        due("the list is what is left", bits.count(10), 1);
    }

    private static void promise22Refused() {
        test(22, "-2: one is empty");
        stays(Bounds::rich, "tighten(5, 0)", x -> x.tighten(5, 0), EMPTY);
        stays(Bounds::rich, "tighten(0, 5)", x -> x.tighten(0, 5), EMPTY);
        stays(Bounds::rich, "tighten(3, 5)", x -> x.tighten(3, 5), EMPTY);
        test(22, "NONE: no such ones");
        refusesOutside(Bounds::rich, "tighten(#, 0)", 0, 5, (x, d) -> x.tighten(d, 0), NONE);
        refusesOutside(Bounds::rich, "tighten(0, #)", 0, 5, (x, e) -> x.tighten(0, e), NONE);
        refusesOutside(Bounds::rich, "tighten(5, #)", 0, 5, (x, e) -> x.tighten(5, e), NONE);
        refusesOutside(Bounds::rich, "tighten(#, 5)", 0, 5, (x, d) -> x.tighten(d, 5), NONE);
    }

    private static void promise23() {
        test(23, "Of MAPS by LISTS those by which fewest (else most) NODES of e are one that some NODE became");
        NetMaps x = fullAndBare();
        dueBest("seven into seven", x, 1, 1, new int[] {1, 7, 0}, new int[] {7, 5040, 22875});
        dueBest("all lines", x, 0, 0, new int[] {1, 7, 0}, new int[] {7, 5040, 22875});
        told(x, 2, ONE);
        dueBest("one into seven", x, 2, 1, new int[] {1, 7, 0}, new int[] {1, 7, 0});
        dueBest("seven into one", x, 1, 2, new int[] {1, 1, 0}, new int[] {1, 1, 0});
        told(x, 3, "7:0-10-20-30-40-50-61-21-31-41-51-62-32-42-52-63-43-53-64-54-65-6");
        dueBest("no fewer than seven", x, 3, 3, new int[] {7, 5040, 0}, new int[] {7, 5040, 0});
        x.put(4, 6);
        dueBest("six into seven", x, 4, 1, new int[] {1, 7, 0}, new int[] {6, 5040, 3267});
        dueBest("seven into six", x, 1, 4, new int[] {1, 6, 0}, new int[] {6, 15120, 1865});
        test(23, "2 the number of the first");
        x.list(0, 64);
        x.list(1, 32);
        // Of the maps 65..... by sevens 55555 and 01234 are the first.
        dueBest("seven into seven by lists", x, 1, 1, new int[] {2, 32, 14005}, new int[] {7, 120, 466});
    }

    /** what 0 to 2 of those of fewest nodes, then of most. */
    private static void dueBest(String name, NetMaps x, int d, int e, int[] fewest, int[] most) {
        for (int what = 0; what <= 2; what++) {
            due(name + ", fewest, what " + what, x.image(d, e, true, what), fewest[what]);
            due(name + ", most, what " + what, x.image(d, e, false, what), most[what]);
        }
    }

    private static void promise23Refused() {
        test(23, "-4: there are no MAPS");
        for (int what = 0; what <= 2; what++) {
            int told = what;
            for (boolean fewest : new boolean[] {true, false}) {
                stays(Bounds::rich, "image(1, 0, ..)", x -> x.image(1, 0, fewest, told), -4);
                stays(Bounds::rich, "image(4, 3, ..)", x -> x.image(4, 3, fewest, told), -4);
                stays(Bounds::listless, "image(0, 1, ..)", x -> x.image(0, 1, fewest, told), -4);
                stays(Bounds::rich, "image(5, 0, ..)", x -> x.image(5, 0, fewest, told), EMPTY);
                stays(Bounds::rich, "image(0, 5, ..)", x -> x.image(0, 5, fewest, told), EMPTY);
                stays(Bounds::listless, "image(0, 5, ..)", x -> x.image(0, 5, fewest, told), EMPTY);
            }
        }
        test(23, "NONE: no such ones");
        refusesOutside(Bounds::rich, "image(#, 1, true, 0)", 0, 5, (x, d) -> x.image(d, 1, true, 0), NONE);
        refusesOutside(Bounds::rich, "image(0, #, true, 0)", 0, 5, (x, e) -> x.image(0, e, true, 0), NONE);
        refusesOutside(Bounds::rich, "image(0, 1, true, #)", 0, 2, (x, what) -> x.image(0, 1, true, what), NONE);
        refusesOutside(Bounds::rich, "image(0, 1, false, #)", 0, 2, (x, what) -> x.image(0, 1, false, what), NONE);
        asksAtEnds(Bounds::rich, "image(0, 1, false, #)", 0, 2, (x, what) -> x.image(0, 1, false, what), 2, 0);
        test(23, "Of several reasons NONE comes first, then -2, and so on");
        refusesOutside(Bounds::rich, "image(5, 0, true, #)", 0, 2, (x, what) -> x.image(5, 0, true, what), NONE);
        refusesOutside(Bounds::rich, "image(1, 0, true, #)", 0, 2, (x, what) -> x.image(1, 0, true, what), NONE);
        refusesOutside(Bounds::rich, "image(#, 5, true, 0)", 0, 5, (x, d) -> x.image(d, 5, true, 0), NONE);
    }

    private static void promise24() {
        test(24, "WEIGHT of NODE number x (0 to 6) is so from now on (0 to 9; 0 at first): what it was");
        NetMaps x = new NetMaps();
        for (int a = 0; a <= 6; a++) {
            due("weigh(" + a + ", 9)", x.weigh(a, 9), 0);
            due("weigh(" + a + ", 0)", x.weigh(a, 0), 9);
            due("weigh(" + a + ", 1)", x.weigh(a, 1), 0);
            due("weigh(" + a + ", 1) again", x.weigh(a, 1), 1);
            due("count(" + (20 + a) + ")", x.count(20 + a), 1);
        }
        test(24, "NONE: no such ones");
        refusesOutside(Bounds::rich, "weigh(#, 5)", 0, 6, (y, a) -> y.weigh(a, 5), NONE);
        refusesOutside(Bounds::rich, "weigh(0, #)", 0, 9, (y, weight) -> y.weigh(0, weight), NONE);
        refusesOutside(Bounds::rich, "weigh(6, #)", 0, 9, (y, weight) -> y.weigh(6, weight), NONE);
        refusesOutside(Bounds::rich, "weigh(#, 10)", 0, 6, (y, a) -> y.weigh(a, 10), NONE);
    }

    private static void promise25() {
        test(25, "Of MAPS by LISTS those of least (else most) WEIGHTS (of what each NODE becomes, together)");
        NetMaps x = fullAndBare();
        dueWeights("all 0", x, 1, 1, new int[] {0, 823543, 0}, new int[] {0, 823543, 0});
        for (int a = 0; a <= 6; a++) {
            x.weigh(a, 9);
        }
        dueWeights("all 9", x, 1, 1, new int[] {63, 823543, 0}, new int[] {63, 823543, 0});
        dueWeights("all 9, all lines", x, 0, 0, new int[] {63, 823543, 0}, new int[] {63, 823543, 0});
        x.weigh(0, 0);
        dueWeights("one of them 0", x, 1, 1, new int[] {0, 1, 0}, new int[] {63, 279936, 137257});
        x.weigh(0, 9);
        x.weigh(6, 0);
        dueWeights("the last one 0", x, 0, 0, new int[] {0, 1, 823542}, new int[] {63, 279936, 0});
        test(25, "bits that H has not count for nothing");
        x.put(2, 1);
        x.put(3, 6);
        dueWeights("weights of nodes that e has not", x, 2, 3, new int[] {9, 6, 0}, new int[] {9, 6, 0});
        dueWeights("one into one", x, 2, 2, new int[] {9, 1, 0}, new int[] {9, 1, 0});
        dueWeights("seven into one", x, 1, 2, new int[] {63, 1, 0}, new int[] {63, 1, 0});
        x.list(0, 32);
        dueWeights("by a list", x, 2, 1, new int[] {9, 1, 0}, new int[] {9, 1, 0});
        x.list(0, 96);
        dueWeights("by a list of two", x, 2, 1, new int[] {0, 1, 1}, new int[] {9, 1, 0});
    }

    private static void dueWeights(String name, NetMaps x, int d, int e, int[] least, int[] most) {
        for (int what = 0; what <= 2; what++) {
            due(name + ", least, what " + what, x.cheapest(d, e, true, what), least[what]);
            due(name + ", most, what " + what, x.cheapest(d, e, false, what), most[what]);
        }
    }

    private static void promise25Refused() {
        test(25, "likewise");
        for (int what = 0; what <= 2; what++) {
            int told = what;
            for (boolean least : new boolean[] {true, false}) {
                stays(Bounds::rich, "cheapest(1, 0, ..)", x -> x.cheapest(1, 0, least, told), -4);
                stays(Bounds::rich, "cheapest(4, 3, ..)", x -> x.cheapest(4, 3, least, told), -4);
                stays(Bounds::listless, "cheapest(0, 1, ..)", x -> x.cheapest(0, 1, least, told), -4);
                stays(Bounds::rich, "cheapest(5, 0, ..)", x -> x.cheapest(5, 0, least, told), EMPTY);
                stays(Bounds::rich, "cheapest(0, 5, ..)", x -> x.cheapest(0, 5, least, told), EMPTY);
                stays(Bounds::listless, "cheapest(0, 5, ..)", x -> x.cheapest(0, 5, least, told), EMPTY);
            }
        }
        refusesOutside(Bounds::rich, "cheapest(#, 1, true, 0)", 0, 5, (x, d) -> x.cheapest(d, 1, true, 0), NONE);
        refusesOutside(Bounds::rich, "cheapest(0, #, true, 0)", 0, 5, (x, e) -> x.cheapest(0, e, true, 0), NONE);
        refusesOutside(Bounds::rich, "cheapest(0, 1, true, #)", 0, 2, (x, w) -> x.cheapest(0, 1, true, w), NONE);
        refusesOutside(Bounds::rich, "cheapest(0, 1, false, #)", 0, 2, (x, w) -> x.cheapest(0, 1, false, w), NONE);
        // Rich weighs node 0 with 4.
        asksAtEnds(Bounds::rich, "cheapest(0, 1, false, #)", 0, 2, (x, w) -> x.cheapest(0, 1, false, w), 4, 0);
        asksAtEnds(Bounds::rich, "cheapest(0, 1, true, #)", 0, 2, (x, w) -> x.cheapest(0, 1, true, w), 0, 3);
        test(25, "Of several reasons NONE comes first, then -2, and so on");
        refusesOutside(Bounds::rich, "cheapest(5, 0, true, #)", 0, 2, (x, w) -> x.cheapest(5, 0, true, w), NONE);
        refusesOutside(Bounds::rich, "cheapest(1, 0, true, #)", 0, 2, (x, w) -> x.cheapest(1, 0, true, w), NONE);
        refusesOutside(Bounds::rich, "cheapest(#, 5, true, 0)", 0, 5, (x, d) -> x.cheapest(d, 5, true, 0), NONE);
    }

    private static void promise26() {
        test(26, "then MAP l of e into f (no LISTS all through): the number of that MAP of d into f");
        NetMaps x = fullAndBare();
        x.list(0, 0);
        x.list(6, 0);
        due("the first ones", x.behind(1, 1, 1, 0, 0), 0);
        due("the last ones", x.behind(1, 1, 1, 823542, 823542), 823542);
        due("the last behind the first", x.behind(0, 0, 0, 0, 823542), 823542);
        due("the first behind the last", x.behind(0, 0, 0, 823542, 0), 0);
        due("what stays as it is", x.behind(0, 0, 0, 22875, 400000), 400000);
        due("what stays as it is", x.behind(1, 0, 0, 400000, 22875), 400000);
        told(x, 2, ONE);
        told(x, 3, LOOP);
        due("seven by one into seven", x.behind(1, 2, 1, 0, 6), 823542);
        due("one by seven into one", x.behind(2, 1, 2, 6, 0), 0);
        due("one into one", x.behind(2, 3, 3, 0, 0), 0);
        due("the last of one into seven", x.behind(2, 2, 1, 0, 6), 6);
        test(26, "-3: not so many");
        for (int k : new int[] {6, 7, GREATEST}) {
            stays(Bounds::listless, "behind(0, 1, 1, " + k + ", 0)", y -> y.behind(0, 1, 1, k, 0), -3);
            stays(Bounds::listless, "behind(0, 1, 1, 0, " + k + ")", y -> y.behind(0, 1, 1, 0, k), -3);
            stays(Bounds::listless, "behind(0, 1, 1, " + k + ", " + k + ")", y -> y.behind(0, 1, 1, k, k), -3);
        }
        stays(Bounds::listless, "behind(0, 1, 1, 5, 5)", y -> y.behind(0, 1, 1, 5, 5), 0);
        stays(Bounds::fullAndBare, "behind(0, 0, 0, 823543, 0)", y -> y.behind(0, 0, 0, 823543, 0), -3);
        stays(Bounds::fullAndBare, "behind(0, 0, 0, 0, 823543)", y -> y.behind(0, 0, 0, 0, 823543), -3);
        stays(Bounds::fullAndBare, "behind(0, 1, 1, 0, 0), no maps at first", y -> y.behind(0, 1, 1, 0, 0), -3);
        stays(Bounds::fullAndBare, "behind(1, 0, 1, 0, 0), no maps then", y -> y.behind(1, 0, 1, 0, 0), -3);
    }

    private static void promise26Refused() {
        test(26, "-2: one is empty");
        stays(Bounds::rich, "behind(5, 1, 1, 0, 0)", x -> x.behind(5, 1, 1, 0, 0), EMPTY);
        stays(Bounds::rich, "behind(0, 5, 1, 0, 0)", x -> x.behind(0, 5, 1, 0, 0), EMPTY);
        stays(Bounds::rich, "behind(0, 1, 5, 0, 0)", x -> x.behind(0, 1, 5, 0, 0), EMPTY);
        test(26, "NONE: no such ones (k, l below 0)");
        for (int k : new int[] {-1, LEAST}) {
            stays(Bounds::rich, "behind(0, 1, 1, " + k + ", 0)", x -> x.behind(0, 1, 1, k, 0), NONE);
            stays(Bounds::rich, "behind(0, 1, 1, 0, " + k + ")", x -> x.behind(0, 1, 1, 0, k), NONE);
        }
        refusesOutside(Bounds::rich, "behind(#, 1, 1, 0, 0)", 0, 5, (x, d) -> x.behind(d, 1, 1, 0, 0), NONE);
        refusesOutside(Bounds::rich, "behind(0, #, 1, 0, 0)", 0, 5, (x, e) -> x.behind(0, e, 1, 0, 0), NONE);
        refusesOutside(Bounds::rich, "behind(0, 1, #, 0, 0)", 0, 5, (x, f) -> x.behind(0, 1, f, 0, 0), NONE);
        test(26, "Of several reasons NONE comes first, then -2, and so on");
        refusesOutside(Bounds::rich, "behind(5, 1, #, 0, 0)", 0, 5, (x, f) -> x.behind(5, 1, f, 0, 0), NONE);
        refusesOutside(Bounds::rich, "behind(#, 1, 1, 6, 6)", 0, 5, (x, d) -> x.behind(d, 1, 1, 6, 6), NONE);
        stays(Bounds::rich, "behind(0, 1, 5, 6, -1)", x -> x.behind(0, 1, 5, 6, -1), NONE);
        stays(Bounds::rich, "behind(0, 1, 1, 6, -1)", x -> x.behind(0, 1, 1, 6, -1), NONE);
        stays(Bounds::rich, "behind(0, 1, 1, -1, 6)", x -> x.behind(0, 1, 1, -1, 6), NONE);
        stays(Bounds::rich, "behind(0, 1, 5, 6, 0)", x -> x.behind(0, 1, 5, 6, 0), EMPTY);
        stays(Bounds::rich, "behind(5, 1, 1, 0, MAX)", x -> x.behind(5, 1, 1, 0, GREATEST), EMPTY);
    }
}

import java.util.Arrays;
import java.util.List;

/** Each sentence of the document's terms, by what is plainly due of all small networks. */
public final class SentencesOfTermsTest extends Sentences {
    private static final int CUT = NONE;

    public static void main(String[] args) {
        networks();
        drawers();
        linesOfTexts();
        signsOfTexts();
        waysAndRings();
        sums();
        products();
        powers();
        parts();
        maps();
        lists();
        left();
        retractions();
        steps();
        operations();
        majorities();
        dualities();
        numbersOfDualities();
        colours();
        refused();
        calls();
        end("sentences of the terms");
    }

    // ---- 1: networks, texts, what is made of them

    private static void networks() {
        test(6, "A NETWORK: n NODES 0 to n - 1 (1 to 7) and LINES a to b (a may be b: a LOOP), each there or not");
        for (int n = 1; n <= 7; n++) {
            NetMaps x = new NetMaps();
            boolean[][] want = new boolean[n][n];
            due("put(0, " + n + ")", x.put(0, n), true);
            for (int i = 0; i < 2 * n * n; i++) {
                // Every line comes, in an order of its own, and then goes, in another one.
                boolean is = i < n * n;
                int at = is ? (i * 11 + 5) % (n * n) : i - n * n;
                want[at / n][at % n] = is;
                due("line " + at, x.line(0, at / n, at % n, is), true);
                due("row of line " + at, x.row(0, at / n, true) >> at % n & 1, bit(is));
                due("lines", x.told(0, 1), lines(want));
            }
            dueSquare("put(0, " + n + ")", x, 0, want);
        }
    }

    private static void drawers() {
        test(1, "DRAWERS 0 to 5 hold one each, or none (at first)");
        NetMaps x = new NetMaps();
        String[] texts = {"1:0>0", "2:0>1", "3:1-2", "4:", "5:4>0", "6:0>1"};
        for (int d = 0; d <= 5; d++) {
            due("drawer " + d + " at first", x.told(d, 0), EMPTY);
            told(x, d, texts[d]);
            for (int e = 0; e <= 5; e++) {
                due("drawer " + e + " behind net(" + d + ", ..)", x.told(e, 0), e <= d ? e + 1 : EMPTY);
            }
        }
        for (int d = 0; d <= 5; d++) {
            dueText(x, d, texts[d]);
        }
        due("drawer 6", x.told(6, 0), NONE);
    }

    private static void linesOfTexts() {
        test(3, "LINES one behind the other: a digit, - or >, a digit: a>b is the LINE a to b, a-b that and b to a");
        for (int a = 0; a <= 6; a++) {
            for (int b = 0; b <= 6; b++) {
                NetMaps x = new NetMaps();
                boolean[][] want = new boolean[7][7];
                want[a][b] = true;
                due(a + ">" + b, told(x, 0, "7:" + a + ">" + b), 1);
                dueSquare(a + ">" + b, x, 0, want);
                want[b][a] = true;
                due(a + "-" + b, told(x, 0, "7:" + a + "-" + b), a == b ? 1 : 2);
                dueSquare(a + "-" + b, x, 0, want);
            }
        }
        for (boolean[][] g : small(1)) {
            NetMaps x = new NetMaps();
            due("net of " + text(g), told(x, 0, text(g)), lines(g));
            dueSquare("net of " + text(g), x, 0, g);
        }
    }

    private static void signsOfTexts() {
        test(3, "FAULTS, the first byte from the left that is wrong (the end: at the length), of one byte the least: "
                + "1 it can't stand there, 2 no 1 to 7 NODES, no such NODE, 3 a LINE whose told ones are all there "
                + "already, at its second digit");
        // Behind these: what may stand there, what is a digit, but no 1 to 7 nodes, no such node; the answer if the
        // text ends ahead of it, and behind it.
        dueSigns("", "1234567", "089", CUT, CUT);
        dueSigns("5", ":", "", CUT, 0);
        dueSigns("5:", "01234", "56789", 0, CUT);
        dueSigns("5:2", "->", "", CUT, CUT);
        dueSigns("5:2>", "01234", "56789", CUT, 1);
        dueSigns("5:4>4", "01234", "56789", 1, CUT);
        dueSigns("1:", "0", "123456789", 0, CUT);
        dueSigns("1:0-", "0", "123456789", CUT, 1);
        dueSigns("6:0-5", "012345", "6789", 2, CUT);
        for (boolean[][] g : small(7)) {
            for (int at = 0; at < g.length * g.length; at++) {
                int a = at / g.length;
                int b = at % g.length;
                dueLast(g, a + ">" + b, g[a][b], g[a][b] ? 0 : 1);
                dueLast(g, a + "-" + b, g[a][b] && g[b][a], (g[a][b] ? 0 : 1) + (g[b][a] || a == b ? 0 : 1));
            }
        }
    }

    /** Each byte behind the beginning of a text: a blank, what may stand there, what is fault 2 there, or fault 1. */
    private static void dueSigns(String begun, String may, String no, int ahead, int behind) {
        NetMaps x = new NetMaps();
        int place = begun.length();
        for (int sign = 0; sign < 256; sign++) {
            // Two calls a sign are as many as an object is used for.
            int want = no.indexOf(sign) >= 0 ? -2000 - place : -1000 - place;
            if (sign == ' ' || may.indexOf(sign) >= 0) {
                int lines = sign == ' ' ? ahead : behind;
                want = lines == CUT ? -1000 - (place + 1) : lines;
            }
            due("net of " + begun + (char) sign, told(x, 0, begun + (char) sign), want);
        }
    }

    /** A network's text with one line more: it is there already, or comes (so many lines) to those. */
    private static void dueLast(boolean[][] g, String line, boolean there, int more) {
        String text = text(g) + line;
        NetMaps x = new NetMaps();
        due("net of " + text, told(x, 0, text), there ? -3000 - (text.length() - 1) : lines(g) + more);
    }

    private static void waysAndRings() {
        test(9, "A WAY: LINES one behind the other, one at least");
        for (boolean[][] g : small(1)) {
            NetMaps x = holding(g);
            for (int a = 0; a < g.length; a++) {
                int ahead = 0;
                for (int b = 0; b < g.length; b++) {
                    ahead |= shortest(g, a, b) > 0 ? 1 << b : 0;
                }
                due("reach(0, " + a + ") of " + text(g), x.reach(0, a), ahead);
            }
        }
        test(7, "RINGS: a WAY from a NODE to itself; the SHORTEST: how many LINES it has");
        for (boolean[][] g : small(1)) {
            dueRings(holding(g), g);
        }
        for (int k = 1; k <= 7; k++) {
            // A ring of k nodes among seven, with a way to it and one from it.
            StringBuilder text = new StringBuilder("7:");
            for (int a = 0; a < 7; a++) {
                text.append(a == k - 1 ? a + ">0" : "").append(a < 6 ? a + ">" + (a + 1) : "");
            }
            NetMaps x = with(text.toString());
            due("the shortest of " + text, x.told(0, 5), k);
            due("nodes on rings of " + text, x.told(0, 6), (1 << k) - 1);
        }
    }

    private static void dueRings(NetMaps x, boolean[][] g) {
        int shortest = 0;
        int on = 0;
        for (int a = 0; a < g.length; a++) {
            int ring = shortest(g, a, a);
            on |= ring > 0 ? 1 << a : 0;
            shortest = ring > 0 && (shortest == 0 || ring < shortest) ? ring : shortest;
        }
        due("the shortest of " + text(g), x.told(0, 5), shortest);
        due("nodes on rings of " + text(g), x.told(0, 6), on);
    }

    private static void sums() {
        test(10, "SUM of two: NODES of the second behind those of the first, all LINES");
        for (boolean[][] g : small(37)) {
            for (boolean[][] h : small(41)) {
                int n = g.length;
                boolean[][] want = new boolean[n + h.length][n + h.length];
                for (int a = 0; a < want.length; a++) {
                    for (int b = 0; b < want.length; b++) {
                        want[a][b] = a < n && b < n ? g[a][b] : a >= n && b >= n && h[a - n][b - n];
                    }
                }
                dueMade("SUM", g, h, 0, want);
            }
        }
    }

    private static void products() {
        test(10, "PRODUCT: twos (a, x) as NODE a times m and x (m: how many the second has), "
                + "a LINE from (a, x) to (b, y) where a to b and x to y are");
        for (boolean[][] g : small(37)) {
            for (boolean[][] h : small(41)) {
                int m = h.length;
                if (g.length * m <= 7) {
                    boolean[][] want = new boolean[g.length * m][g.length * m];
                    for (int i = 0; i < want.length * want.length; i++) {
                        int from = i / want.length;
                        int to = i % want.length;
                        want[from][to] = g[from / m][to / m] && h[from % m][to % m];
                    }
                    dueMade("PRODUCT", g, h, 1, want);
                }
            }
        }
    }

    private static void powers() {
        test(10, "POWER of H by G: rows of NODES of H, one for each NODE of G, as numbers (by how many H has; "
                + "NODE 0's place slowest), a LINE from row f to row g if, for each LINE a to b of G, "
                + "f's at a to g's at b is a LINE of H");
        for (boolean[][] h : small(23)) {
            for (boolean[][] g : small(29)) {
                List<int[]> rows = rows(g.length, h.length);
                if (rows.size() <= 7) {
                    boolean[][] want = new boolean[rows.size()][rows.size()];
                    for (int i = 0; i < want.length * want.length; i++) {
                        int[] from = rows.get(i / want.length);
                        int[] to = rows.get(i % want.length);
                        want[i / want.length][i % want.length] = isLineOfRows(g, h, from, to);
                    }
                    dueMade("POWER", h, g, 4, want);
                }
            }
        }
    }

    private static boolean isLineOfRows(boolean[][] g, boolean[][] h, int[] from, int[] to) {
        for (int a = 0; a < g.length; a++) {
            for (int b = 0; b < g.length; b++) {
                if (g[a][b] && !h[from[a]][to[b]]) {
                    return false;
                }
            }
        }
        return true;
    }

    private static void dueMade(String name, boolean[][] one, boolean[][] two, int how, boolean[][] want) {
        NetMaps x = holding(one, two);
        String call = name + " of " + text(one) + " and " + text(two);
        due(call, x.make(0, 1, 2, how), lines(want));
        dueSquare(call, x, 2, want);
    }

    private static void parts() {
        test(12, "PART by some NODES (bits): those, in order, numbered anew, and all LINES between them");
        for (boolean[][] g : small(5)) {
            for (int some = 1; some < 1 << g.length; some++) {
                NetMaps x = holding(g);
                String call = "part(0, " + some + ", 1) of " + text(g);
                due(call, x.part(0, some, 1), lines(part(g, some)));
                dueSquare(call, x, 1, part(g, some));
            }
        }
    }

    // ---- 2: maps

    private static void maps() {
        test(16, "A MAP of G into H: for each NODE of G a NODE of H, so that each LINE a to b of G becomes "
                + "a LINE of H");
        for (boolean[][] g : small(31)) {
            for (boolean[][] h : small(43)) {
                NetMaps x = holding(g, h);
                due("maps of " + text(g) + " into " + text(h), x.maps(0, 1, 0), maps(g, h).size());
                due("fits of " + text(g) + ", " + text(h), x.fits(0, 1) & 1, bit(fitsInto(g, h)));
            }
        }
        test(17, "MAPS are those by LISTS, where LISTS are said; they are numbered from 0 on, "
                + "rising by what NODE 0 becomes, then 1, and so on");
        int[] lists = {5, 3, 6};
        for (boolean[][] g : small(61)) {
            for (boolean[][] h : small(67)) {
                NetMaps x = holding(g, h);
                dueMaps(x, "maps of " + text(g) + " into " + text(h), maps(g, h));
                for (int a = 0; a < lists.length; a++) {
                    x.list(a, lists[a]);
                }
                dueMaps(x, "some maps of " + text(g) + " into " + text(h), byLists(maps(g, h), lists));
            }
        }
    }

    private static void dueMaps(NetMaps x, String call, List<int[]> maps) {
        for (int k = 0; k < maps.size(); k++) {
            for (int a = 0; a < x.told(0, 0); a++) {
                due(call + ", map " + k + ", node " + a, x.map(0, 1, k, a), maps.get(k)[a]);
            }
        }
        due(call + ", not so many", x.map(0, 1, maps.size(), 0), -3);
    }

    private static void lists() {
        test(14, "LISTS: for each NODE number 0 to 6 which NODES it may become (bits; all at first; those of NODES "
                + "that G has not, bits that H has not count for nothing)");
        for (int a = 0; a <= 6; a++) {
            for (int some : new int[] {0, 1, 2, 5, 64, 96, 127}) {
                NetMaps x = with("3:0>1", "3:0-1 1-2 2>2");
                List<int[]> maps = maps(square(3, 2), square(3, 0b110101010));
                due("maps, all at first", x.maps(0, 1, 0), maps.size());
                due("list(" + a + ", " + some + ")", x.list(a, some), 127);
                int[] lists = {127, 127, 127, 127, 127, 127, 127};
                lists[a] = some;
                due("maps by list " + a + " of " + some, x.maps(0, 1, 0), byLists(maps, lists).size());
            }
        }
    }

    private static void left() {
        test(19, "LEFT of LISTS: again and again what is in the list of a and has not, for some LINE a to b "
                + "(or b to a) of G, a LINE to (from) one in the list of b, is taken out, till nothing changes "
                + "(of a LOOP: what has no LOOP, too)");
        int[][] some = {{127, 127, 127}, {1, 7, 7}, {7, 6, 7}, {3, 6, 5}, {7, 7, 4}, {7, 0, 7}};
        for (boolean[][] g : small(23)) {
            for (boolean[][] h : small(29)) {
                NetMaps x = holding(g, h);
                for (int[] lists : some) {
                    int[] left = left(g, h, lists);
                    for (int a = 0; a < 3; a++) {
                        x.list(a, lists[a]);
                    }
                    for (int a = 0; a < g.length; a++) {
                        String call = "left of " + text(g) + ", " + text(h) + ", lists " + List.of(lists[0], lists[1],
                                lists[2]) + ", node " + a;
                        due(call, x.left(0, 1, a), left[a]);
                    }
                }
            }
        }
    }

    private static void retractions() {
        test(28, "A RETRACTION: a MAP (no LISTS) of G into itself by which each NODE that some NODE becomes "
                + "becomes itself");
        for (boolean[][] g : small(3)) {
            NetMaps x = holding(g);
            List<int[]> some = retractions(g);
            due("retractions of " + text(g), x.core(0, 0), some.size());
            for (int k = 0; k < some.size(); k++) {
                for (int a = 0; a < g.length; a++) {
                    due("retraction(0, " + k + ", " + a + ") of " + text(g), x.retraction(0, k, a), some.get(k)[a]);
                }
            }
        }
        test(11, "THE CORE: the fewest NODES that some RETRACTION becomes; of like ones the least bits; PART by them");
        for (boolean[][] g : small(1)) {
            NetMaps x = holding(g);
            due("the core of " + text(g), x.core(0, 1), core(g));
            due("the core of " + text(g), x.change(0, 5), lines(part(g, core(g))));
            dueSquare("the core of " + text(g), x, 0, part(g, core(g)));
        }
    }

    private static void steps() {
        test(29, "BESIDE are two MAPS (by LISTS) that differ at just one NODE. THE STEPS from one to another: "
                + "the fewest, each to one BESIDE. FROZEN: nothing is BESIDE it");
        int[] lists = {127, 3, 6};
        for (boolean[][] g : small(83)) {
            for (boolean[][] h : small(71)) {
                NetMaps x = holding(g, h);
                x.list(1, lists[1]);
                x.list(2, lists[2]);
                List<int[]> maps = byLists(maps(g, h), lists);
                int frozen = 0;
                for (int k = 0; k < maps.size(); k++) {
                    int[] steps = Sentences.steps(maps, k);
                    boolean alone = true;
                    for (int l = 0; l < steps.length; l++) {
                        String call = "steps(0, 1, " + k + ", " + l + ") of " + text(g) + ", " + text(h);
                        due(call, x.steps(0, 1, k, l), steps[l]);
                        alone &= steps[l] != 1;
                    }
                    frozen += alone ? 1 : 0;
                }
                due("frozen of " + text(g) + ", " + text(h), x.crowds(0, 1, 0), frozen);
            }
        }
    }

    // ---- 3: operations, dualities, colours

    private static void operations() {
        test(32, "An OPERATION of two on H (3 NODES at most): a NODE f(x, y) for each two, so that, "
                + "where x to x' and y to y' are LINES, f(x, y) to f(x', y') is one. "
                + "IDLE: f(x, x) is x. FAIR: IDLE, and f(x, y) is f(y, x)");
        for (boolean[][] h : small(19)) {
            for (int sort = 0; sort <= 2; sort++) {
                dueTables(h, sort);
            }
        }
        due("four nodes", with("4:").operations(0, 0), -3);
    }

    private static void majorities() {
        test(32, "OF THREE likewise f(x, y, z); by the MAJORITY: what two of the three are is the NODE. "
                + "Numbered from 0 on, rising by f(0, 0), f(0, 1), .. (the last place fastest)");
        for (boolean[][] h : small(17)) {
            dueTables(h, 3);
        }
    }

    /** How many, and of some of them, the first and the last too, what is at each place. */
    private static void dueTables(boolean[][] h, int sort) {
        List<int[]> tables = tables(h, sort);
        int n = h.length;
        NetMaps x = holding(h);
        String call = "operations of sort " + sort + " of " + text(h);
        due(call, x.operations(0, sort), tables.size());
        due(call, x.operation(0, sort, tables.size(), 0, 0, 0), -4);
        int step = Math.max(1, tables.size() / 9);
        for (int i = 0; i < tables.size(); i += step) {
            int k = i + step < tables.size() ? i : tables.size() - 1;
            int[] table = tables.get(k);
            for (int place = 0; place < table.length; place++) {
                int row = sort == 3 ? place / n : place;
                due(call + ", the one " + k + " at place " + place,
                        x.operation(0, sort, k, row / n, row % n, sort == 3 ? place % n : -7), table[place]);
            }
        }
    }

    private static void dualities() {
        test(33, "A DUALITY of X and H, tried on all NETWORKS of n NODES (1 to 3): for each G just one of both "
                + "holds: X FITS into G, G FITS into H. It FAILS at G, if none, or both do");
        for (boolean[][] one : small(91)) {
            for (boolean[][] two : small(97)) {
                NetMaps x = holding(one, two);
                for (int n = 1; n <= 3; n += one.length == 3 ? 2 : 1) {
                    int fails = 0;
                    int first = -4;
                    for (int number = (1 << n * n) - 1; number >= 0; number--) {
                        boolean[][] g = square(n, number);
                        if (fitsInto(one, g) == fitsInto(g, two)) {
                            fails++;
                            first = number;
                        }
                    }
                    String call = "duality of " + text(one) + ", " + text(two) + ", n " + n;
                    due(call, x.duality(0, 1, n, false), fails);
                    due(call + ", the first", x.duality(0, 1, n, true), first);
                }
            }
        }
    }

    private static void numbersOfDualities() {
        test(33, "(NETWORKS of n NODES: all sets of LINES; number: the bit a times n and b for each LINE a to b.)");
        // What has a line fits not into a node without; a loop fits into none but those with one.
        NetMaps x = with(LOOP, "2:0>1", ONE, K2, RING3);
        for (int n = 1; n <= 3; n++) {
            int loopless = 1 << n * n - n;
            due("sets of lines, n " + n, x.duality(2, 0, n, false), 1 << n * n);
            due("no loop, some line, n " + n, x.duality(0, 2, n, false), loopless - 1);
        }
        due("the first with a loop", x.unlike(0, 2, 1, true), 1);
        due("the first line of two", x.duality(0, 2, 2, true), 1 << 0 * 2 + 1);
        due("the first line of three", x.duality(0, 2, 3, true), 1 << 0 * 3 + 1);
        due("the first ring of three", x.between(4, 0, 3, true), first(3, square(3, 98), square(1, 1)));
        due("the first with a line both ways", x.between(1, 0, 2, true), 1 << 0 * 2 + 1 | 1 << 1 * 2 + 0);
    }

    /** The first of n nodes that is between two. */
    private static int first(int n, boolean[][] one, boolean[][] two) {
        for (int number = 0; number < 1 << n * n; number++) {
            boolean[][] g = square(n, number);
            if (fitsInto(one, g) && fitsInto(g, two) && !fitsInto(g, one) && !fitsInto(two, g)) {
                return number;
            }
        }
        return -4;
    }

    private static void colours() {
        test(34, "COLOURED by q: MAPS (no LISTS) into q NODES (1 to 7) with all LINES but LOOPS");
        for (boolean[][] g : small(3)) {
            NetMaps x = holding(g);
            x.list(0, 0);
            for (int q = 1; q <= 7; q++) {
                boolean[][] h = new boolean[q][q];
                for (int a = 0; a < q; a++) {
                    Arrays.fill(h[a], true);
                    h[a][a] = false;
                }
                due("colours(0, " + q + ") of " + text(g), x.colours(0, q), Sentences.maps(g, h).size());
            }
        }
    }

    // ---- all calls

    private static void refused() {
        test(1, "A call that is refused (NONE, -2 to -9, false) changes nothing but the tape, where it is told");
        for (Call call : refusals()) {
            NetMaps x = rich();
            long answer = call.of(x);
            due("refused with " + answer, answer >= -9 && answer <= -1, true);
            stays(Bounds::rich, "a call refused with " + answer, call, answer);
        }
        test(3, "it has not so many (the tape stays)");
        stays(Bounds::rich, "net(0, 41)", x -> x.net(0, 41), NONE);
        test(3, "empty then");
        NetMaps x = rich();
        due("net(0, 7), cut", x.net(0, 7), -1007);
        due("count(1)", x.count(1), 0);
    }

    /** Each call that is refused, by each answer that its promise names (of rich() drawer 5 is empty). */
    private static List<Call> refusals() {
        return List.of(
                x -> x.net(6, 1), x -> refusal(x.put(0, 8)), x -> x.take(6), x -> refusal(x.line(0, 0, 1, true)),
                x -> refusal(x.line(5, 0, 0, true)), x -> x.told(5, 0), x -> x.told(0, 9), x -> x.row(5, 0, true),
                x -> x.row(0, 2, true), x -> x.reach(5, 6), x -> x.reach(1, 3), x -> x.make(0, 5, 1, 0),
                x -> x.make(3, 4, 0, 0), x -> x.make(0, 1, 2, 2), x -> x.make(1, 1, 0, 4), x -> x.make(0, 1, 6, 0),
                x -> x.change(5, 3), x -> x.change(0, 7), x -> x.part(5, 1, 0), x -> x.part(0, 4, 1),
                x -> x.part(0, 0, 1), x -> x.part(0, 1, 6), x -> x.drawn(0, 8, 1, 5), x -> x.drawn(0, 3, 1, 11),
                x -> x.list(0, 128), x -> x.list(7, 0), x -> x.maps(0, 5, 0), x -> x.maps(0, 1, 5),
                x -> x.map(0, 5, 0, 0), x -> x.map(0, 1, 999, 0), x -> x.map(0, 1, 0, 2), x -> x.becomes(5, 0, 0, 0),
                x -> x.becomes(0, 1, 0, 3), x -> x.left(0, 5, 0), x -> x.left(0, 1, 2), x -> x.fits(5, 0),
                x -> x.fits(0, 6), x -> x.search(0, 5), x -> x.search(6, 0), x -> x.tighten(0, 5),
                x -> x.tighten(5, 0), x -> x.tighten(0, 6), x -> x.image(0, 5, true, 0), x -> x.image(0, 2, true, 0),
                x -> x.image(0, 1, true, 3), x -> x.weigh(7, 0), x -> x.weigh(0, 10), x -> x.cheapest(5, 0, true, 0),
                x -> x.cheapest(0, 2, false, 1), x -> x.cheapest(0, 1, true, 3), x -> x.behind(0, 1, 5, 0, 0),
                x -> x.behind(0, 1, 1, 99, 0), x -> x.behind(0, 1, 1, 0, 99), x -> x.behind(0, 1, 1, -1, 0),
                x -> x.core(5, 0), x -> x.core(0, 4), x -> x.retraction(5, 0, 0), x -> x.retraction(0, 1, 0),
                x -> x.retraction(0, -1, 0), x -> x.steps(0, 5, 0, 0), x -> x.steps(0, 1, 0, 99),
                x -> x.steps(3, 3, 0, 0), x -> x.steps(0, 0, 0, 1), x -> x.steps(0, 1, -1, 0),
                x -> x.crowds(5, 0, 0), x -> x.crowds(3, 3, 0), x -> x.crowds(0, 1, 4), x -> x.operations(5, 0),
                x -> x.operations(3, 0), x -> x.operations(0, 4), x -> x.operation(5, 0, 0, 0, 0, 0),
                x -> x.operation(3, 0, 0, 0, 0, 0), x -> x.operation(0, 2, 0, 0, 0, 0),
                x -> x.operation(0, 0, 0, 2, 0, 0), x -> x.duality(0, 5, 1, true), x -> x.duality(4, 0, 2, true),
                x -> x.duality(0, 1, 4, false), x -> x.colours(5, 1), x -> x.colours(0, 8), x -> x.levels(5),
                x -> x.levels(0), x -> x.levels(6), x -> x.folded(5, 0), x -> x.folded(0, 2), x -> x.orbit(5, 0),
                x -> x.orbit(0, 2), x -> x.between(0, 5, 1, true), x -> x.between(0, 0, 1, true),
                x -> x.between(0, 1, 0, true), x -> x.unlike(5, 0, 1, true), x -> x.unlike(0, 0, 2, true),
                x -> x.unlike(0, 1, 4, true), x -> x.ways(5, 0, 0, 0), x -> x.ways(0, 0, 2, 1),
                x -> x.ways(0, 0, 0, 10), x -> x.letter(5, 0), x -> x.letter(0, 5), x -> x.letter(0, -2),
                x -> x.count(3), x -> x.count(17));
    }

    private static long refusal(boolean taken) {
        return taken ? 1 : NONE;
    }

    private static void calls() {
        test(1, "An object is used for at most 512 calls after it has been made; what later calls answer is free");
        NetMaps x = new NetMaps();
        for (int i = 0; i < 512; i += 4) {
            int n = 1 + i / 4 % 7;
            due("call " + (i + 1), x.put(i % 6, n), true);
            due("call " + (i + 2), x.change(i % 6, 3), n);
            due("call " + (i + 3), x.maps(i % 6, i % 6, 1), factorial(n));
            due("call " + (i + 4), x.take(i % 6), 1);
        }
        // What they answer is free, but they do answer.
        for (int i = 0; i < 512; i++) {
            x.feed(i, i, i, i, i);
            x.keep();
            x.drawn(i % 6, 7, i, 5);
            x.count(i);
        }
        due("512 calls, and more", 1, 1);
    }

    private static int factorial(int n) {
        return n < 2 ? 1 : n * factorial(n - 1);
    }
}

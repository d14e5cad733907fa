import java.util.ArrayList;
import java.util.Arrays;
import java.util.List;

/**
 * What the tests of sentences share: networks as squares (whether there is a line a to b), and the terms of the
 * document told once more, as plainly as can be, by trying all rows.
 */
abstract class Sentences extends Bounds {
    /** The network of n nodes that has this number. */
    static boolean[][] square(int n, int number) {
        boolean[][] square = new boolean[n][n];
        for (int a = 0; a < n; a++) {
            for (int b = 0; b < n; b++) {
                square[a][b] = (number >> a * n + b & 1) != 0;
            }
        }
        return square;
    }

    /** All of one and of two nodes, and each step-th of three. */
    static List<boolean[][]> small(int step) {
        List<boolean[][]> small = new ArrayList<>();
        for (int n = 1; n <= 3; n++) {
            for (int number = 0; number < 1 << n * n; number += n < 3 ? 1 : step) {
                small.add(square(n, number));
            }
        }
        return small;
    }

    static String text(boolean[][] g) {
        StringBuilder text = new StringBuilder().append(g.length).append(':');
        for (int a = 0; a < g.length; a++) {
            for (int b = 0; b < g.length; b++) {
                text.append(g[a][b] ? a + ">" + b : "");
            }
        }
        return text.toString();
    }

    static int lines(boolean[][] g) {
        int lines = 0;
        for (boolean[] row : g) {
            for (boolean is : row) {
                lines += is ? 1 : 0;
            }
        }
        return lines;
    }

    /** A new object with these networks in its drawers, from drawer 0 on. */
    static NetMaps holding(boolean[][]... nets) {
        String[] texts = new String[nets.length];
        for (int d = 0; d < nets.length; d++) {
            texts[d] = text(nets[d]);
        }
        return with(texts);
    }

    /** A drawer holds this network: its nodes, and each line as it is told from either end. */
    static void dueSquare(String call, NetMaps x, int d, boolean[][] want) {
        due(call + ", nodes", x.told(d, 0), want.length);
        for (int a = 0; a < want.length; a++) {
            int to = 0;
            int from = 0;
            for (int b = 0; b < want.length; b++) {
                to |= want[a][b] ? 1 << b : 0;
                from |= want[b][a] ? 1 << b : 0;
            }
            due(call + ", row(" + d + ", " + a + ", true)", x.row(d, a, true), to);
            due(call + ", row(" + d + ", " + a + ", false)", x.row(d, a, false), from);
        }
    }

    // ---- ways

    /** How many ways of k lines there are from each node to each. */
    static long[][] ways(boolean[][] g, int k) {
        int n = g.length;
        long[][] ways = new long[n][n];
        for (int a = 0; a < n; a++) {
            ways[a][a] = 1;
        }
        for (int step = 0; step < k; step++) {
            long[][] longer = new long[n][n];
            for (int a = 0; a < n; a++) {
                for (int b = 0; b < n; b++) {
                    for (int c = 0; c < n; c++) {
                        longer[a][b] += g[c][b] ? ways[a][c] : 0;
                    }
                }
            }
            ways = longer;
        }
        return ways;
    }

    /** The fewest lines, one at least, of a way from a to b; 0 if there is none. */
    static int shortest(boolean[][] g, int a, int b) {
        for (int k = 1; k <= g.length; k++) {
            if (ways(g, k)[a][b] > 0) {
                return k;
            }
        }
        return 0;
    }

    // ---- maps

    /** All rows of n numbers below m, as they rise. */
    static List<int[]> rows(int n, int m) {
        List<int[]> rows = new ArrayList<>();
        rows.add(new int[0]);
        for (int i = 0; i < n; i++) {
            List<int[]> longer = new ArrayList<>();
            for (int[] row : rows) {
                for (int x = 0; x < m; x++) {
                    int[] next = Arrays.copyOf(row, i + 1);
                    next[i] = x;
                    longer.add(next);
                }
            }
            rows = longer;
        }
        return rows;
    }

    static boolean keepsLines(boolean[][] g, boolean[][] h, int[] f) {
        for (int a = 0; a < g.length; a++) {
            for (int b = 0; b < g.length; b++) {
                if (g[a][b] && !h[f[a]][f[b]]) {
                    return false;
                }
            }
        }
        return true;
    }

    /** All maps of g into h, as they are numbered. */
    static List<int[]> maps(boolean[][] g, boolean[][] h) {
        List<int[]> maps = new ArrayList<>();
        for (int[] f : rows(g.length, h.length)) {
            if (keepsLines(g, h, f)) {
                maps.add(f);
            }
        }
        return maps;
    }

    static List<int[]> byLists(List<int[]> maps, int... lists) {
        List<int[]> some = new ArrayList<>();
        for (int[] f : maps) {
            boolean may = true;
            for (int a = 0; a < f.length && a < lists.length; a++) {
                may &= (lists[a] >> f[a] & 1) != 0;
            }
            if (may) {
                some.add(f);
            }
        }
        return some;
    }

    static boolean fitsInto(boolean[][] g, boolean[][] h) {
        return !maps(g, h).isEmpty();
    }

    /** The nodes (bits) that some node becomes. */
    static int reached(int[] f) {
        int reached = 0;
        for (int x : f) {
            reached |= 1 << x;
        }
        return reached;
    }

    static int indexOf(List<int[]> rows, int[] row) {
        for (int k = 0; k < rows.size(); k++) {
            if (Arrays.equals(rows.get(k), row)) {
                return k;
            }
        }
        return NONE;
    }

    /** The maps of a network into itself by which each node that some node becomes becomes itself. */
    static List<int[]> retractions(boolean[][] g) {
        List<int[]> some = new ArrayList<>();
        for (int[] f : maps(g, g)) {
            boolean rests = true;
            for (int x : f) {
                rests &= f[x] == x;
            }
            if (rests) {
                some.add(f);
            }
        }
        return some;
    }

    static int core(boolean[][] g) {
        int core = (1 << g.length) - 1;
        for (int[] f : retractions(g)) {
            int some = reached(f);
            int fewer = Integer.bitCount(some) - Integer.bitCount(core);
            core = fewer < 0 || fewer == 0 && some < core ? some : core;
        }
        return core;
    }

    static boolean[][] part(boolean[][] g, int some) {
        List<Integer> old = new ArrayList<>();
        for (int a = 0; a < g.length; a++) {
            if ((some >> a & 1) != 0) {
                old.add(a);
            }
        }
        boolean[][] part = new boolean[old.size()][old.size()];
        for (int a = 0; a < part.length; a++) {
            for (int b = 0; b < part.length; b++) {
                part[a][b] = g[old.get(a)][old.get(b)];
            }
        }
        return part;
    }

    /** Lists of which one node after the other is taken out, as long as one has no line to go by. */
    static int[] left(boolean[][] g, boolean[][] h, int... lists) {
        int[] left = new int[g.length];
        for (int a = 0; a < g.length; a++) {
            left[a] = (a < lists.length ? lists[a] : 127) & (1 << h.length) - 1;
        }
        while (takesOut(g, h, left)) {
            // Till nothing changes.
        }
        return left;
    }

    private static boolean takesOut(boolean[][] g, boolean[][] h, int[] left) {
        for (int a = 0; a < g.length; a++) {
            for (int x = 0; x < h.length; x++) {
                if ((left[a] >> x & 1) != 0 && !isBacked(g, h, left, a, x)) {
                    left[a] &= ~(1 << x);
                    return true;
                }
            }
        }
        return false;
    }

    private static boolean isBacked(boolean[][] g, boolean[][] h, int[] left, int a, int x) {
        if (g[a][a] && !h[x][x]) {
            return false;
        }
        for (int b = 0; b < g.length; b++) {
            boolean to = false;
            boolean from = false;
            for (int y = 0; y < h.length; y++) {
                to |= (left[b] >> y & 1) != 0 && h[x][y];
                from |= (left[b] >> y & 1) != 0 && h[y][x];
            }
            if (g[a][b] && !to || g[b][a] && !from) {
                return false;
            }
        }
        return true;
    }

    static boolean areBeside(int[] f, int[] g) {
        int unlike = 0;
        for (int a = 0; a < f.length; a++) {
            unlike += f[a] == g[a] ? 0 : 1;
        }
        return unlike == 1;
    }

    /** The steps from map k to each: -4 where there are none. */
    static int[] steps(List<int[]> maps, int k) {
        int[] steps = new int[maps.size()];
        Arrays.fill(steps, -4);
        steps[k] = 0;
        for (int far = 0; far < maps.size(); far++) {
            for (int i = 0; i < maps.size(); i++) {
                for (int j = 0; j < maps.size() && steps[i] == far; j++) {
                    steps[j] = steps[j] < 0 && areBeside(maps.get(i), maps.get(j)) ? far + 1 : steps[j];
                }
            }
        }
        return steps;
    }

    // ---- operations

    /** Where all of two rows of places are lines, a table's values are one. */
    static boolean keepsTable(boolean[][] h, int[] table, int arity) {
        for (int s = 0; s < table.length; s++) {
            for (int t = 0; t < table.length; t++) {
                int p = s;
                int q = t;
                boolean all = true;
                for (int i = 0; i < arity; i++) {
                    all &= h[p % h.length][q % h.length];
                    p /= h.length;
                    q /= h.length;
                }
                if (all && !h[table[s]][table[t]]) {
                    return false;
                }
            }
        }
        return true;
    }

    /** The tables of the sort 0, 1, 2 (of two), 3 (of three), as they are numbered. */
    static List<int[]> tables(boolean[][] h, int sort) {
        List<int[]> some = new ArrayList<>();
        for (int[] table : sort == 3 ? majorities(h.length) : rows(h.length * h.length, h.length)) {
            if (isOfSort(table, h.length, sort) && keepsTable(h, table, sort == 3 ? 3 : 2)) {
                some.add(table);
            }
        }
        return some;
    }

    private static boolean isOfSort(int[] table, int n, int sort) {
        boolean is = true;
        for (int x = 0; x < n && (sort == 1 || sort == 2); x++) {
            is &= table[x * n + x] == x;
            for (int y = 0; y < n && sort == 2; y++) {
                is &= table[x * n + y] == table[y * n + x];
            }
        }
        return is;
    }

    private static List<int[]> majorities(int n) {
        List<int[]> tables = new ArrayList<>();
        tables.add(new int[0]);
        for (int place = 0; place < n * n * n; place++) {
            int x = place / (n * n);
            int y = place / n % n;
            int z = place % n;
            int fixed = x == y || x == z ? x : y == z ? y : NONE;
            List<int[]> longer = new ArrayList<>();
            for (int[] table : tables) {
                for (int value = 0; value < n; value++) {
                    if (fixed == NONE || fixed == value) {
                        int[] next = Arrays.copyOf(table, place + 1);
                        next[place] = value;
                        longer.add(next);
                    }
                }
            }
            tables = longer;
        }
        return tables;
    }
}

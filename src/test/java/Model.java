import java.util.ArrayDeque;
import java.util.ArrayList;
import java.util.Arrays;
import java.util.HashSet;
import java.util.List;
import java.util.Set;

/** What the document says, told once more by trying everything; slow, and made to share nothing with NetMaps. */
final class Model {
    private boolean[][][] drawers = new boolean[6][][];
    private int[] lists = {127, 127, 127, 127, 127, 127, 127};
    private int[] weights = new int[7];
    private final List<Integer> tape = new ArrayList<>();
    private final List<Object[]> kept = new ArrayList<>();

    // ---- what calls ask

    private static boolean drawer(int d) {
        return d >= 0 && d <= 5;
    }

    private boolean node(int d, int a) {
        return drawer(d) && a >= 0 && a < (drawers[d] == null ? 7 : drawers[d].length);
    }

    private boolean none(int... some) {
        for (int d : some) {
            if (drawers[d] == null) {
                return true;
            }
        }
        return false;
    }

    private static boolean bit(int bits, int a) {
        return (bits & 1 << a) != 0;
    }

    private static int lines(boolean[][] g) {
        int lines = 0;
        for (boolean[] row : g) {
            for (boolean is : row) {
                lines += is ? 1 : 0;
            }
        }
        return lines;
    }

    private int into(int d, boolean[][] g) {
        drawers[d] = g;
        return lines(g);
    }

    // ---- texts, drawers

    int feed(int... ints) {
        if (tape.size() + 20 > 160) {
            return -1;
        }
        for (int word : ints) {
            for (int i = 3; i >= 0; i--) {
                tape.add(word >> 8 * i & 0xff);
            }
        }
        return tape.size();
    }

    int net(int d, int n) {
        if (!drawer(d) || n < 1 || n > 80 || n > tape.size()) {
            return -1;
        }
        List<Integer> text = new ArrayList<>(tape.subList(0, n));
        tape.clear();
        List<Integer> places = new ArrayList<>();
        for (int i = 0; i < n; i++) {
            if (text.get(i) != ' ') {
                places.add(i);
            }
        }
        boolean[][] g = null;
        for (int i = 0; i < places.size(); i++) {
            int place = places.get(i);
            int sign = text.get(place);
            boolean digit = sign >= '0' && sign <= '9';
            // Sign 0 the number, sign 1 the colon, then threes of digit, way, digit.
            int role = i < 2 ? i : 2 + (i - 2) % 3;
            boolean stands = role == 1 ? sign == ':' : role == 3 ? sign == '-' || sign == '>' : digit;
            if (!stands) {
                return -1000 - place;
            }
            if (role == 0) {
                if (sign < '1' || sign > '7') {
                    return -2000 - place;
                }
                g = new boolean[sign - '0'][sign - '0'];
            }
            if ((role == 2 || role == 4) && sign - '0' >= g.length) {
                return -2000 - place;
            }
            if (role == 4) {
                int a = text.get(places.get(i - 2)) - '0';
                int b = sign - '0';
                boolean back = text.get(places.get(i - 1)) == '-';
                if (g[a][b] && (!back || g[b][a])) {
                    return -3000 - place;
                }
                g[a][b] = true;
                g[b][a] |= back;
            }
        }
        if (places.size() < 2 || (places.size() - 2) % 3 != 0) {
            return -1000 - n;
        }
        return into(d, g);
    }

    boolean put(int d, int n) {
        if (!drawer(d) || n < 1 || n > 7) {
            return false;
        }
        drawers[d] = new boolean[n][n];
        return true;
    }

    int take(int d) {
        if (!drawer(d)) {
            return -1;
        }
        int was = drawers[d] == null ? 0 : 1;
        drawers[d] = null;
        return was;
    }

    boolean line(int d, int a, int b, boolean is) {
        if (!node(d, a) || !node(d, b) || none(d) || drawers[d][a][b] == is) {
            return false;
        }
        drawers[d][a][b] = is;
        return true;
    }

    int told(int d, int what) {
        if (!drawer(d) || what < 0 || what > 8) {
            return -1;
        }
        if (none(d)) {
            return -2;
        }
        boolean[][] g = drawers[d];
        int n = g.length;
        int loops = 0;
        int mostTo = 0;
        int mostFrom = 0;
        boolean twoWay = true;
        for (int a = 0; a < n; a++) {
            loops += g[a][a] ? 1 : 0;
            int to = 0;
            int from = 0;
            for (int b = 0; b < n; b++) {
                to += g[a][b] ? 1 : 0;
                from += g[b][a] ? 1 : 0;
                twoWay &= g[a][b] == g[b][a];
            }
            mostTo = Math.max(mostTo, to);
            mostFrom = Math.max(mostFrom, from);
        }
        int[] far = new int[n];
        int ring = 0;
        int on = 0;
        for (int a = 0; a < n; a++) {
            far[a] = far(g, a, a);
            if (far[a] > 0) {
                on |= 1 << a;
                ring = ring == 0 ? far[a] : Math.min(ring, far[a]);
            }
        }
        return new int[] {n, lines(g), loops, pieces(g), twoWay ? 1 : 0, ring, on, mostTo, mostFrom}[what];
    }

    private static int pieces(boolean[][] g) {
        int[] mark = new int[g.length];
        for (int a = 0; a < g.length; a++) {
            mark[a] = a;
        }
        for (int again = 0; again < 60; again++) {
            for (int a = 0; a < g.length; a++) {
                for (int b = 0; b < g.length; b++) {
                    if (g[a][b]) {
                        mark[a] = mark[b] = Math.min(mark[a], mark[b]);
                    }
                }
            }
        }
        return (int) Arrays.stream(mark).distinct().count();
    }

    /** The fewest lines, one at least, that lead from a to b; 0 if none do. */
    private static int far(boolean[][] g, int a, int b) {
        long[][] power = unit(g.length);
        for (int k = 1; k <= g.length; k++) {
            power = times(power, g);
            if (power[a][b] > 0) {
                return k;
            }
        }
        return 0;
    }

    private static long[][] unit(int n) {
        long[][] unit = new long[n][n];
        for (int a = 0; a < n; a++) {
            unit[a][a] = 1;
        }
        return unit;
    }

    private static long[][] times(long[][] left, boolean[][] g) {
        int n = g.length;
        long[][] product = new long[n][n];
        for (int a = 0; a < n; a++) {
            for (int b = 0; b < n; b++) {
                for (int c = 0; c < n; c++) {
                    product[a][c] += g[b][c] ? left[a][b] : 0;
                }
            }
        }
        return product;
    }

    int row(int d, int a, boolean to) {
        if (!node(d, a)) {
            return -1;
        }
        if (none(d)) {
            return -2;
        }
        int bits = 0;
        for (int b = 0; b < drawers[d].length; b++) {
            bits |= (to ? drawers[d][a][b] : drawers[d][b][a]) ? 1 << b : 0;
        }
        return bits;
    }

    int reach(int d, int a) {
        if (!node(d, a)) {
            return -1;
        }
        if (none(d)) {
            return -2;
        }
        int bits = 0;
        for (int b = 0; b < drawers[d].length; b++) {
            bits |= far(drawers[d], a, b) > 0 ? 1 << b : 0;
        }
        return bits;
    }

    // ---- made

    int make(int d, int e, int f, int how) {
        if (!drawer(d) || !drawer(e) || !drawer(f) || how < 0 || how > 4) {
            return -1;
        }
        if (none(d, e)) {
            return -2;
        }
        boolean[][] g = drawers[d];
        boolean[][] h = drawers[e];
        int n = g.length;
        int m = h.length;
        double nodes = new double[] {n + m, n * m, n, n, Math.pow(n, m)}[how];
        if (nodes > 7 || (how == 2 || how == 3) && n != m) {
            return -3;
        }
        boolean[][] made = new boolean[(int) nodes][(int) nodes];
        for (int a = 0; a < made.length; a++) {
            for (int b = 0; b < made.length; b++) {
                if (how == 0) {
                    made[a][b] = a < n && b < n ? g[a][b] : a >= n && b >= n && h[a - n][b - n];
                } else if (how == 1) {
                    made[a][b] = g[a / m][b / m] && h[a % m][b % m];
                } else if (how == 4) {
                    made[a][b] = powerLine(tuple(a, n, m), tuple(b, n, m), g, h);
                } else {
                    made[a][b] = how == 2 ? g[a][b] || h[a][b] : g[a][b] && h[a][b];
                }
            }
        }
        return into(f, made);
    }

    private static int[] tuple(int number, int base, int length) {
        int[] tuple = new int[length];
        for (int i = length - 1; i >= 0; i--) {
            tuple[i] = number % base;
            number /= base;
        }
        return tuple;
    }

    private static boolean powerLine(int[] f, int[] g, boolean[][] base, boolean[][] exponent) {
        for (int a = 0; a < exponent.length; a++) {
            for (int b = 0; b < exponent.length; b++) {
                if (exponent[a][b] && !base[f[a]][g[b]]) {
                    return false;
                }
            }
        }
        return true;
    }

    int change(int d, int how) {
        if (!drawer(d) || how < 0 || how > 6) {
            return -1;
        }
        if (none(d)) {
            return -2;
        }
        boolean[][] g = drawers[d];
        if (how == 5) {
            return into(d, partOf(g, core(d, 1)));
        }
        boolean[][] made = new boolean[g.length][g.length];
        for (int a = 0; a < g.length; a++) {
            for (int b = 0; b < g.length; b++) {
                boolean[] is = {
                    g[b][a], g[a][b] | g[b][a], a == b ? g[a][a] : !g[a][b], a == b || g[a][b], a != b && g[a][b],
                    false, far(g, a, b) > 0,
                };
                made[a][b] = is[how];
            }
        }
        return into(d, made);
    }

    private static boolean[][] partOf(boolean[][] g, int some) {
        List<Integer> stay = new ArrayList<>();
        for (int a = 0; a < g.length; a++) {
            if (bit(some, a)) {
                stay.add(a);
            }
        }
        boolean[][] part = new boolean[stay.size()][stay.size()];
        for (int a = 0; a < part.length; a++) {
            for (int b = 0; b < part.length; b++) {
                part[a][b] = g[stay.get(a)][stay.get(b)];
            }
        }
        return part;
    }

    int part(int d, int some, int e) {
        if (!drawer(d) || !drawer(e)) {
            return -1;
        }
        if (none(d)) {
            return -2;
        }
        if (some <= 0 || some >= 1 << drawers[d].length) {
            return -3;
        }
        return into(e, partOf(drawers[d], some));
    }

    int drawn(int d, int n, int seed, int tenths) {
        if (!drawer(d) || n < 1 || n > 7 || tenths < 0 || tenths > 10) {
            return -1;
        }
        boolean[][] g = new boolean[n][n];
        long x = Math.floorMod((long) seed, 65536L);
        for (int a = 0; a < n; a++) {
            for (int b = 0; b < n; b++) {
                if (a == b) {
                    continue;
                }
                x = (25173 * x + 13849) % 65536;
                g[a][b] = (x / 4) % 10 < tenths;
            }
        }
        return into(d, g);
    }

    // ---- maps

    int list(int a, int some) {
        if (a < 0 || a > 6 || some < 0 || some > 127) {
            return -1;
        }
        int was = lists[a];
        lists[a] = some;
        return was;
    }

    int free() {
        int cut = 0;
        for (int a = 0; a < 7; a++) {
            cut += lists[a] == 127 ? 0 : 1;
            lists[a] = 127;
        }
        return cut;
    }

    /** How many rows would have to be tried for all maps of one into the other. */
    double tried(int d, int e) {
        if (!drawer(d) || !drawer(e) || none(d, e)) {
            return 0;
        }
        return Math.pow(drawers[e].length, drawers[d].length);
    }

    private static List<int[]> allMaps(boolean[][] g, boolean[][] h, int[] lists) {
        List<int[]> maps = new ArrayList<>();
        int rows = (int) Math.pow(h.length, g.length);
        for (int i = 0; i < rows; i++) {
            int[] f = tuple(i, h.length, g.length);
            if (isMap(f, g, h) && (lists == null || isListed(f, lists))) {
                maps.add(f);
            }
        }
        return maps;
    }

    private static boolean isMap(int[] f, boolean[][] g, boolean[][] h) {
        for (int a = 0; a < g.length; a++) {
            for (int b = 0; b < g.length; b++) {
                if (g[a][b] && !h[f[a]][f[b]]) {
                    return false;
                }
            }
        }
        return true;
    }

    private static boolean isListed(int[] f, int[] lists) {
        for (int a = 0; a < f.length; a++) {
            if (!bit(lists[a], f[a])) {
                return false;
            }
        }
        return true;
    }

    private List<int[]> listed(int d, int e) {
        return allMaps(drawers[d], drawers[e], lists);
    }

    private static boolean exists(boolean[][] g, boolean[][] h) {
        return !allMaps(g, h, null).isEmpty();
    }

    private static int imageBits(int[] f) {
        int bits = 0;
        for (int x : f) {
            bits |= 1 << x;
        }
        return bits;
    }

    int maps(int d, int e, int sort) {
        if (!drawer(d) || !drawer(e) || sort < 0 || sort > 4) {
            return -1;
        }
        if (none(d, e)) {
            return -2;
        }
        boolean[][] g = drawers[d];
        boolean[][] h = drawers[e];
        int many = 0;
        for (int[] f : sort == 4 ? allMaps(g, h, null) : listed(d, e)) {
            boolean apart = Integer.bitCount(imageBits(f)) == g.length;
            boolean onto = Integer.bitCount(imageBits(f)) == h.length;
            boolean[][] hit = new boolean[h.length][h.length];
            boolean just = true;
            for (int a = 0; a < g.length; a++) {
                for (int b = 0; b < g.length; b++) {
                    hit[f[a]][f[b]] |= g[a][b];
                    just &= g[a][b] == h[f[a]][f[b]];
                }
            }
            boolean[] is = {true, apart, onto, onto && Arrays.deepEquals(hit, h), apart && onto && just};
            many += is[sort] ? 1 : 0;
        }
        return many;
    }

    int map(int d, int e, int k, int a) {
        if (!node(d, a) || !drawer(e) || k < 0) {
            return -1;
        }
        if (none(d, e)) {
            return -2;
        }
        List<int[]> maps = listed(d, e);
        return k < maps.size() ? maps.get(k)[a] : -3;
    }

    int becomes(int d, int e, int a, int x) {
        if (!node(d, a) || !node(e, x)) {
            return -1;
        }
        if (none(d, e)) {
            return -2;
        }
        return (int) listed(d, e).stream().filter(f -> f[a] == x).count();
    }

    private int[] leftOf(int d, int e) {
        boolean[][] g = drawers[d];
        boolean[][] h = drawers[e];
        int[] left = new int[g.length];
        for (int a = 0; a < g.length; a++) {
            left[a] = lists[a] & (1 << h.length) - 1;
        }
        boolean again = true;
        while (again) {
            again = false;
            for (int a = 0; a < g.length; a++) {
                for (int x = 0; x < h.length; x++) {
                    if (bit(left[a], x) && mustGo(g, h, left, a, x)) {
                        left[a] -= 1 << x;
                        again = true;
                    }
                }
            }
        }
        return left;
    }

    private static boolean mustGo(boolean[][] g, boolean[][] h, int[] left, int a, int x) {
        if (g[a][a] && !h[x][x]) {
            return true;
        }
        for (int b = 0; b < g.length; b++) {
            boolean to = false;
            boolean from = false;
            for (int y = 0; y < h.length; y++) {
                to |= bit(left[b], y) && h[x][y];
                from |= bit(left[b], y) && h[y][x];
            }
            if (g[a][b] && !to || g[b][a] && !from) {
                return true;
            }
        }
        return false;
    }

    int left(int d, int e, int a) {
        if (!node(d, a) || !drawer(e)) {
            return -1;
        }
        return none(d, e) ? -2 : leftOf(d, e)[a];
    }

    int fits(int d, int e) {
        if (!drawer(d) || !drawer(e)) {
            return -1;
        }
        if (none(d, e)) {
            return -2;
        }
        boolean there = exists(drawers[d], drawers[e]);
        boolean back = exists(drawers[e], drawers[d]);
        return there ? back ? 3 : 1 : back ? 2 : 0;
    }

    int search(int d, int e) {
        if (!drawer(d) || !drawer(e)) {
            return -1;
        }
        if (none(d, e)) {
            return -2;
        }
        boolean[][] g = drawers[d];
        boolean[][] h = drawers[e];
        int first = Integer.MAX_VALUE;
        List<int[]> maps = listed(d, e);
        int[] stop = maps.isEmpty() ? null : maps.get(0);
        int tries = 0;
        // A try is a beginning of a map that holds so far, and is no later than map 0's own beginning.
        for (int length = 1; length <= g.length; length++) {
            boolean[][] ahead = partOf(g, (1 << length) - 1);
            for (int[] f : allMaps(ahead, h, lists)) {
                if (stop == null || Arrays.compare(f, Arrays.copyOf(stop, length)) <= 0) {
                    tries++;
                }
            }
        }
        return Math.min(tries, first);
    }

    int tighten(int d, int e) {
        if (!drawer(d) || !drawer(e)) {
            return -1;
        }
        if (none(d, e)) {
            return -2;
        }
        int out = 0;
        int[] left = leftOf(d, e);
        for (int a = 0; a < left.length; a++) {
            for (int x = 0; x < drawers[e].length; x++) {
                out += bit(lists[a], x) && !bit(left[a], x) ? 1 : 0;
            }
        }
        System.arraycopy(left, 0, lists, 0, left.length);
        return out;
    }

    int image(int d, int e, boolean fewest, int what) {
        return bestOf(d, e, fewest, what, false);
    }

    int cheapest(int d, int e, boolean least, int what) {
        return bestOf(d, e, least, what, true);
    }

    private int bestOf(int d, int e, boolean least, int what, boolean weighed) {
        if (!drawer(d) || !drawer(e) || what < 0 || what > 2) {
            return -1;
        }
        if (none(d, e)) {
            return -2;
        }
        List<Integer> values = new ArrayList<>();
        for (int[] f : listed(d, e)) {
            int weight = 0;
            for (int x : f) {
                weight += weights[x];
            }
            values.add(weighed ? weight : Integer.bitCount(imageBits(f)));
        }
        if (values.isEmpty()) {
            return -4;
        }
        int best = values.stream().mapToInt(v -> least ? -v : v).max().getAsInt() * (least ? -1 : 1);
        long alike = values.stream().filter(v -> v == best).count();
        return what == 0 ? best : what == 1 ? (int) alike : values.indexOf(best);
    }

    int weigh(int x, int weight) {
        if (x < 0 || x > 6 || weight < 0 || weight > 9) {
            return -1;
        }
        int was = weights[x];
        weights[x] = weight;
        return was;
    }

    int behind(int d, int e, int f, int k, int l) {
        if (!drawer(d) || !drawer(e) || !drawer(f) || k < 0 || l < 0) {
            return -1;
        }
        if (none(d, e, f)) {
            return -2;
        }
        List<int[]> one = allMaps(drawers[d], drawers[e], null);
        List<int[]> two = allMaps(drawers[e], drawers[f], null);
        if (k >= one.size() || l >= two.size()) {
            return -3;
        }
        int[] both = Arrays.stream(one.get(k)).map(x -> two.get(l)[x]).toArray();
        return indexOf(allMaps(drawers[d], drawers[f], null), both);
    }

    private static int indexOf(List<int[]> maps, int[] f) {
        for (int i = 0; i < maps.size(); i++) {
            if (Arrays.equals(maps.get(i), f)) {
                return i;
            }
        }
        return -1;
    }

    // ---- cores

    private List<int[]> retractionsOf(int d) {
        List<int[]> maps = allMaps(drawers[d], drawers[d], null);
        maps.removeIf(f -> {
            for (int x : f) {
                if (f[x] != x) {
                    return true;
                }
            }
            return false;
        });
        return maps;
    }

    int core(int d, int what) {
        if (!drawer(d) || what < 0 || what > 3) {
            return -1;
        }
        if (none(d)) {
            return -2;
        }
        List<int[]> all = retractionsOf(d);
        Set<Integer> sets = new HashSet<>();
        int least = 127;
        for (int[] f : all) {
            int some = imageBits(f);
            sets.add(some);
            int fewer = Integer.bitCount(some) - Integer.bitCount(least);
            if (fewer < 0 || fewer == 0 && some < least) {
                least = some;
            }
        }
        return new int[] {all.size(), least, Integer.bitCount(least), sets.size()}[what];
    }

    int retraction(int d, int k, int a) {
        if (!node(d, a) || k < 0) {
            return -1;
        }
        if (none(d)) {
            return -2;
        }
        List<int[]> all = retractionsOf(d);
        return k < all.size() ? all.get(k)[a] : -3;
    }

    // ---- maps beside maps

    private static boolean beside(int[] f, int[] g) {
        int unlike = 0;
        for (int a = 0; a < f.length; a++) {
            unlike += f[a] == g[a] ? 0 : 1;
        }
        return unlike == 1;
    }

    private static int[] stepsFrom(List<int[]> maps, int k) {
        int[] far = new int[maps.size()];
        Arrays.fill(far, -4);
        far[k] = 0;
        ArrayDeque<Integer> queue = new ArrayDeque<>(List.of(k));
        while (!queue.isEmpty()) {
            int i = queue.remove();
            for (int j = 0; j < far.length; j++) {
                if (far[j] == -4 && beside(maps.get(i), maps.get(j))) {
                    far[j] = far[i] + 1;
                    queue.add(j);
                }
            }
        }
        return far;
    }

    int steps(int d, int e, int k, int l) {
        if (!drawer(d) || !drawer(e) || k < 0 || l < 0) {
            return -1;
        }
        if (none(d, e)) {
            return -2;
        }
        List<int[]> maps = listed(d, e);
        if (maps.size() > 2000 || k >= maps.size() || l >= maps.size()) {
            return -3;
        }
        return stepsFrom(maps, k)[l];
    }

    int crowds(int d, int e, int what) {
        if (!drawer(d) || !drawer(e) || what < 0 || what > 3) {
            return -1;
        }
        if (none(d, e)) {
            return -2;
        }
        List<int[]> maps = listed(d, e);
        if (maps.size() > 2000) {
            return -3;
        }
        int twos = 0;
        int frozen = 0;
        for (int[] f : maps) {
            int besides = (int) maps.stream().filter(g -> beside(f, g)).count();
            twos += besides;
            frozen += besides == 0 ? 1 : 0;
        }
        Set<Integer> seen = new HashSet<>();
        int parts = 0;
        int greatest = 0;
        for (int i = 0; i < maps.size(); i++) {
            if (!seen.contains(i)) {
                int[] far = stepsFrom(maps, i);
                int size = 0;
                for (int j = 0; j < far.length; j++) {
                    if (far[j] >= 0) {
                        seen.add(j);
                        size++;
                    }
                }
                parts++;
                greatest = Math.max(greatest, size);
            }
        }
        return new int[] {frozen, parts, greatest, twos / 2}[what];
    }

    // ---- operations, dualities

    private static List<int[]> operationsOf(boolean[][] g, int what) {
        int n = g.length;
        int arity = what == 3 ? 3 : 2;
        int rows = (int) Math.pow(n, arity);
        int[] fixed = new int[rows];
        List<Integer> open = new ArrayList<>();
        for (int i = 0; i < rows; i++) {
            int[] at = tuple(i, n, arity);
            fixed[i] = what == 3 ? majority(at) : what > 0 && at[0] == at[1] ? at[0] : -1;
            if (fixed[i] < 0) {
                open.add(i);
            }
        }
        List<int[]> found = new ArrayList<>();
        int tries = (int) Math.pow(n, open.size());
        for (int i = 0; i < tries; i++) {
            int[] f = fixed.clone();
            int[] free = tuple(i, n, open.size());
            for (int j = 0; j < free.length; j++) {
                f[open.get(j)] = free[j];
            }
            if (keepsLines(f, g, arity) && (what != 2 || isFair(f, n))) {
                found.add(f);
            }
        }
        return found;
    }

    private static int majority(int[] at) {
        for (int x : at) {
            if (Arrays.stream(at).filter(y -> y == x).count() >= 2) {
                return x;
            }
        }
        return -1;
    }

    private static boolean isFair(int[] f, int n) {
        for (int x = 0; x < n; x++) {
            for (int y = 0; y < n; y++) {
                if (f[x * n + y] != f[y * n + x]) {
                    return false;
                }
            }
        }
        return true;
    }

    private static boolean keepsLines(int[] f, boolean[][] g, int arity) {
        for (int i = 0; i < f.length; i++) {
            int[] one = tuple(i, g.length, arity);
            for (int j = 0; j < f.length; j++) {
                int[] two = tuple(j, g.length, arity);
                boolean all = true;
                for (int c = 0; c < arity; c++) {
                    all &= g[one[c]][two[c]];
                }
                if (all && !g[f[i]][f[j]]) {
                    return false;
                }
            }
        }
        return true;
    }

    int operations(int d, int what) {
        if (!drawer(d) || what < 0 || what > 3) {
            return -1;
        }
        if (none(d)) {
            return -2;
        }
        return drawers[d].length > 3 ? -3 : operationsOf(drawers[d], what).size();
    }

    int operation(int d, int what, int k, int x, int y, int z) {
        if (!node(d, x) || !node(d, y) || what < 0 || what > 3 || k < 0 || what == 3 && !node(d, z)) {
            return -1;
        }
        if (none(d)) {
            return -2;
        }
        int n = drawers[d].length;
        if (n > 3) {
            return -3;
        }
        List<int[]> all = operationsOf(drawers[d], what);
        if (k >= all.size()) {
            return -4;
        }
        return all.get(k)[what == 3 ? x * n * n + y * n + z : x * n + y];
    }

    private static boolean[][] numbered(int n, int number) {
        boolean[][] g = new boolean[n][n];
        for (int a = 0; a < n; a++) {
            for (int b = 0; b < n; b++) {
                g[a][b] = bit(number, a * n + b);
            }
        }
        return g;
    }

    int duality(int x, int d, int n, boolean first) {
        return trial(0, x, d, n, first);
    }

    int between(int d, int e, int n, boolean first) {
        return trial(1, d, e, n, first);
    }

    int unlike(int d, int e, int n, boolean first) {
        return trial(2, d, e, n, first);
    }

    private int trial(int which, int d, int e, int n, boolean first) {
        if (!drawer(d) || !drawer(e) || n < 1 || n > 3) {
            return -1;
        }
        if (none(d, e)) {
            return -2;
        }
        boolean[][] one = drawers[d];
        boolean[][] two = drawers[e];
        List<Integer> met = new ArrayList<>();
        for (int number = 0; number < Math.pow(2, n * n); number++) {
            boolean[][] g = numbered(n, number);
            boolean is;
            if (which == 0) {
                boolean left = exists(one, g);
                boolean right = exists(g, two);
                is = left && right || !left && !right;
            } else if (which == 1) {
                is = exists(one, g) && exists(g, two) && !exists(g, one) && !exists(two, g);
            } else {
                is = allMaps(g, one, null).size() != allMaps(g, two, null).size();
            }
            if (is) {
                met.add(number);
            }
        }
        return !first ? met.size() : met.isEmpty() ? -4 : met.get(0);
    }

    int colours(int d, int q) {
        if (!drawer(d) || q < 1 || q > 7) {
            return -1;
        }
        if (none(d)) {
            return -2;
        }
        boolean[][] g = drawers[d];
        int many = 0;
        for (int i = 0; i < Math.pow(q, g.length); i++) {
            int[] colour = tuple(i, q, g.length);
            boolean good = true;
            for (int a = 0; a < g.length; a++) {
                for (int b = 0; b < g.length; b++) {
                    good &= !g[a][b] || colour[a] != colour[b];
                }
            }
            many += good ? 1 : 0;
        }
        return many;
    }

    /** What fits into a chain has its nodes on levels, each line from one to the next. */
    int levels(int d) {
        if (!drawer(d)) {
            return -1;
        }
        if (none(d)) {
            return -2;
        }
        for (int k = 0; k <= 6; k++) {
            boolean[][] chain = new boolean[k + 1][k + 1];
            for (int i = 0; i < k; i++) {
                chain[i][i + 1] = true;
            }
            if (exists(drawers[d], chain)) {
                return k;
            }
        }
        return -4;
    }

    int folded(int d, int what) {
        if (!drawer(d) || what < 0 || what > 1) {
            return -1;
        }
        if (none(d)) {
            return -2;
        }
        boolean[][] g = drawers[d];
        List<Integer> there = new ArrayList<>();
        for (int a = 0; a < g.length; a++) {
            there.add(a);
        }
        while (there.remove(lowestFolding(g, there))) {
            continue;
        }
        int bits = 0;
        for (int a : there) {
            bits |= 1 << a;
        }
        return what == 0 ? bits : there.size();
    }

    private static Integer lowestFolding(boolean[][] g, List<Integer> there) {
        for (int a : there) {
            for (int b : there) {
                boolean stands = a != b;
                for (int c : there) {
                    stands &= (!g[a][c] || g[b][c]) && (!g[c][a] || g[c][b]);
                }
                if (stands) {
                    return a;
                }
            }
        }
        return -1;
    }

    int orbit(int d, int a) {
        if (!node(d, a)) {
            return -1;
        }
        if (none(d)) {
            return -2;
        }
        boolean[][] g = drawers[d];
        int orbit = 0;
        for (int[] f : allMaps(g, g, null)) {
            boolean just = Integer.bitCount(imageBits(f)) == g.length;
            for (int x = 0; x < g.length; x++) {
                for (int y = 0; y < g.length; y++) {
                    just &= g[x][y] == g[f[x]][f[y]];
                }
            }
            orbit |= just ? 1 << f[a] : 0;
        }
        return orbit;
    }

    int ways(int d, int a, int b, int k) {
        if (!node(d, a) || !node(d, b) || k < 0 || k > 9) {
            return -1;
        }
        if (none(d)) {
            return -2;
        }
        long[][] power = unit(drawers[d].length);
        for (int i = 0; i < k; i++) {
            power = times(power, drawers[d]);
        }
        return (int) power[a][b];
    }

    int letter(int d, int k) {
        if (!drawer(d) || k < -1) {
            return -1;
        }
        if (none(d)) {
            return -2;
        }
        boolean[][] g = drawers[d];
        StringBuilder text = new StringBuilder().append(g.length).append(':');
        for (int a = 0; a < g.length; a++) {
            for (int b = 0; b < g.length; b++) {
                if (g[a][b] && a < b && g[b][a]) {
                    text.append(a).append('-').append(b);
                } else if (g[a][b] && (a == b || !g[b][a])) {
                    text.append(a).append('>').append(b);
                }
            }
        }
        return k == -1 ? text.length() : k < text.length() ? text.charAt(k) : -3;
    }

    // ---- kept

    int count(int what) {
        if (what == 0) {
            int bits = 0;
            for (int d = 0; d < 6; d++) {
                bits |= none(d) ? 0 : 1 << d;
            }
            return bits;
        }
        if (what == 1 || what == 2) {
            return what == 1 ? tape.size() : kept.size();
        }
        if (what >= 10 && what <= 16) {
            return lists[what - 10];
        }
        return what >= 20 && what <= 26 ? weights[what - 20] : -1;
    }

    private static boolean[][][] copy(boolean[][][] from) {
        boolean[][][] copy = new boolean[6][][];
        for (int d = 0; d < 6; d++) {
            copy[d] = from[d] == null ? null : partOf(from[d], 127);
        }
        return copy;
    }

    int keep() {
        if (kept.size() == 10) {
            return -1;
        }
        kept.add(new Object[] {copy(drawers), lists.clone(), weights.clone()});
        return kept.size();
    }

    int undo() {
        if (kept.isEmpty()) {
            return -1;
        }
        Object[] state = kept.remove(kept.size() - 1);
        drawers = (boolean[][][]) state[0];
        lists = (int[]) state[1];
        weights = (int[]) state[2];
        return kept.size();
    }
}

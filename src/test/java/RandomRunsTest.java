import java.util.Random;

/** Runs of calls drawn by seeds, on NetMaps and on the model: every answer is the same, and so is what stays. */
public final class RandomRunsTest {
    private static final int RUNS = 600;
    private static final int CALLS = 512;
    private static int wrong;

    private final Random random;
    private final NetMaps maps = new NetMaps();
    private final Model model = new Model();
    private final int greatest;
    private final int run;
    private String call = "";

    private RandomRunsTest(int run) {
        this.run = run;
        random = new Random(run);
        greatest = new int[] {3, 4, 5, 7}[run % 4];
    }

    public static void main(String[] args) {
        int runs = args.length > 0 ? Integer.parseInt(args[0]) : RUNS;
        int start = args.length > 1 ? Integer.parseInt(args[1]) : 0;
        for (int run = start; run < start + runs && wrong < 20; run++) {
            new RandomRunsTest(run).play();
        }
        System.out.println(wrong == 0 ? runs + " random runs answer as the model" : wrong + " random runs went wrong");
        if (wrong != 0) {
            System.exit(1);
        }
    }

    private void play() {
        for (int i = 0; i < CALLS; i++) {
            int[] answers;
            try {
                answers = i < 12 ? ready(i) : once();
            } catch (RuntimeException thrown) {
                tell(i, "threw " + thrown);
                return;
            }
            if (answers != null && answers[0] != answers[1]) {
                tell(i, "answered " + answers[0] + ", due is " + answers[1]);
                return;
            }
        }
    }

    private void tell(int i, String what) {
        wrong++;
        System.out.println("random run " + run + ", call " + i + ", " + call + ": " + what);
    }

    /** Fills the drawers first, so that most calls find something. */
    private int[] ready(int i) {
        return i % 2 == 0 ? draw(i / 2, size(), random.nextInt(), random.nextInt(11)) : once();
    }

    private int size() {
        return 1 + random.nextInt(greatest);
    }

    private int pick(int least, int most) {
        return least + random.nextInt(most - least + 1);
    }

    /** Mostly from 0 to most, now and then one that is not there. */
    private int some(int most) {
        int chance = random.nextInt(60);
        if (chance == 0) {
            return random.nextBoolean() ? -1 : most + 1;
        }
        return chance == 1 ? random.nextInt() : random.nextInt(most + 1);
    }

    private int drawer() {
        return some(5);
    }

    private int node() {
        return some(random.nextInt(8) == 0 ? 6 : greatest - 1);
    }

    private int number(int most) {
        return random.nextInt(3) == 0 ? some(2000) : some(most);
    }

    private int[] same(int got, int due) {
        return new int[] {got, due};
    }

    private int[] same(boolean got, boolean due) {
        return new int[] {got ? 1 : 0, due ? 1 : 0};
    }

    private void called(String name, Object... args) {
        StringBuilder text = new StringBuilder(name).append('(');
        for (Object arg : args) {
            text.append(text.charAt(text.length() - 1) == '(' ? "" : ", ").append(arg);
        }
        call = text.append(')').toString();
    }

    private int[] draw(int d, int n, int seed, int tenths) {
        called("drawn", d, n, seed, tenths);
        return same(maps.drawn(d, n, seed, tenths), model.drawn(d, n, seed, tenths));
    }

    /** Trying everything takes too long for the model beyond this. */
    private boolean tooMany(int d, int e) {
        return model.tried(d, e) > 50000;
    }

    private int[] once() {
        int group = random.nextInt(10);
        return group < 3 ? changing() : group < 4 ? looking() : group < 7 ? mapping() : group < 9 ? more() : keeping();
    }

    private int[] changing() {
        int d = drawer();
        int e = drawer();
        int f = drawer();
        int a = node();
        int b = node();
        boolean is = random.nextBoolean();
        switch (random.nextInt(9)) {
            case 0: {
                int n = random.nextInt(20) == 0 ? some(8) : size();
                called("put", d, n);
                return same(maps.put(d, n), model.put(d, n));
            }
            case 1: {
                if (random.nextInt(6) > 0) {
                    return looking();
                }
                called("take", d);
                return same(maps.take(d), model.take(d));
            }
            case 2:
            case 3:
                called("line", d, a, b, is);
                return same(maps.line(d, a, b, is), model.line(d, a, b, is));
            case 4: {
                int how = some(4);
                called("make", d, e, f, how);
                return same(maps.make(d, e, f, how), model.make(d, e, f, how));
            }
            case 5: {
                int how = some(6);
                if (how == 5 && tooMany(d, d)) {
                    return null;
                }
                called("change", d, how);
                return same(maps.change(d, how), model.change(d, how));
            }
            case 6: {
                int bits = random.nextInt(4) == 0 ? some(127) : random.nextInt(1 << greatest);
                called("part", d, bits, e);
                return same(maps.part(d, bits, e), model.part(d, bits, e));
            }
            case 7: {
                int n = random.nextInt(20) == 0 ? some(8) : size();
                return draw(d, n, random.nextInt(), some(10));
            }
            default:
                return texting(d);
        }
    }

    private int[] texting(int d) {
        int fed = maps.count(1);
        if (fed == 0 || random.nextInt(4) == 0) {
            int[] ints = feedInts();
            called("feed", ints[0], ints[1], ints[2], ints[3], ints[4]);
            return same(maps.feed(ints[0], ints[1], ints[2], ints[3], ints[4]), model.feed(ints));
        }
        int n = random.nextInt(6) == 0 ? some(81) : pick(1, Math.min(fed, 80));
        called("net", d, n);
        return same(maps.net(d, n), model.net(d, n));
    }

    /** Twenty bytes that look like a text, or like its going on, with a few that do not. */
    private int[] feedInts() {
        StringBuilder text = new StringBuilder();
        if (maps.count(1) == 0) {
            text.append(random.nextInt(10) == 0 ? random.nextInt(10) : pick(2, 7)).append(':');
        }
        while (text.length() < 24) {
            text.append(random.nextInt(7) == 0 ? " " : "").append(pick(0, 4)).append(random.nextBoolean() ? '-' : '>');
            text.append(random.nextInt(7) == 0 ? " " : "").append(pick(0, 6));
        }
        if (random.nextInt(4) == 0) {
            text.setCharAt(random.nextInt(20), (char) random.nextInt(256));
        }
        int[] ints = new int[5];
        for (int i = 0; i < 20; i++) {
            ints[i / 4] = ints[i / 4] << 8 | text.charAt(i);
        }
        return ints;
    }

    private int[] looking() {
        int d = drawer();
        int a = node();
        int what = some(8);
        switch (random.nextInt(5)) {
            case 0:
                called("told", d, what);
                return same(maps.told(d, what), model.told(d, what));
            case 1: {
                boolean to = random.nextBoolean();
                called("row", d, a, to);
                return same(maps.row(d, a, to), model.row(d, a, to));
            }
            case 2:
                called("reach", d, a);
                return same(maps.reach(d, a), model.reach(d, a));
            case 3: {
                int b = node();
                int k = some(9);
                called("ways", d, a, b, k);
                return same(maps.ways(d, a, b, k), model.ways(d, a, b, k));
            }
            default: {
                int k = some(90) - 1;
                called("letter", d, k);
                return same(maps.letter(d, k), model.letter(d, k));
            }
        }
    }

    private int[] mapping() {
        int d = drawer();
        int e = drawer();
        int f = drawer();
        int a = node();
        int k = number(20);
        int l = number(20);
        boolean least = random.nextBoolean();
        int what = some(2);
        if (tooMany(d, e) || tooMany(e, d) || tooMany(e, f) || tooMany(d, f)) {
            return null;
        }
        switch (random.nextInt(14)) {
            case 0: {
                int bits = random.nextInt(3) == 0 ? 127 : some(127);
                called("list", a, bits);
                return same(maps.list(a, bits), model.list(a, bits));
            }
            case 1:
                called("free");
                return same(maps.free(), model.free());
            case 2: {
                int sort = some(4);
                called("maps", d, e, sort);
                return same(maps.maps(d, e, sort), model.maps(d, e, sort));
            }
            case 3:
                called("map", d, e, k, a);
                return same(maps.map(d, e, k, a), model.map(d, e, k, a));
            case 4: {
                int x = node();
                called("becomes", d, e, a, x);
                return same(maps.becomes(d, e, a, x), model.becomes(d, e, a, x));
            }
            case 5:
                called("left", d, e, a);
                return same(maps.left(d, e, a), model.left(d, e, a));
            case 6:
                called("fits", d, e);
                return same(maps.fits(d, e), model.fits(d, e));
            case 7:
                called("search", d, e);
                return same(maps.search(d, e), model.search(d, e));
            case 8: {
                if (random.nextInt(3) > 0) {
                    return null;
                }
                called("tighten", d, e);
                return same(maps.tighten(d, e), model.tighten(d, e));
            }
            case 9:
                called("image", d, e, least, what);
                return same(maps.image(d, e, least, what), model.image(d, e, least, what));
            case 10: {
                int x = some(6);
                int weight = some(9);
                called("weigh", x, weight);
                return same(maps.weigh(x, weight), model.weigh(x, weight));
            }
            case 11:
            case 12:
                called("cheapest", d, e, least, what);
                return same(maps.cheapest(d, e, least, what), model.cheapest(d, e, least, what));
            default:
                called("behind", d, e, f, k, l);
                return same(maps.behind(d, e, f, k, l), model.behind(d, e, f, k, l));
        }
    }

    private int[] more() {
        int d = drawer();
        int e = drawer();
        int a = node();
        int k = number(12);
        int l = number(40);
        int n = random.nextInt(8) == 0 ? some(4) : pick(1, random.nextInt(12) == 0 ? 3 : 2);
        int what = some(3);
        boolean first = random.nextBoolean();
        if (tooMany(d, d) || tooMany(d, e)) {
            return null;
        }
        switch (random.nextInt(15)) {
            case 0:
                called("core", d, what);
                return same(maps.core(d, what), model.core(d, what));
            case 1:
                called("retraction", d, k, a);
                return same(maps.retraction(d, k, a), model.retraction(d, k, a));
            case 2:
            case 3:
                called("steps", d, e, k, l);
                return same(maps.steps(d, e, k, l), model.steps(d, e, k, l));
            case 4:
                called("crowds", d, e, what);
                return same(maps.crowds(d, e, what), model.crowds(d, e, what));
            case 5:
                called("operations", d, what);
                return random.nextInt(3) == 0 ? same(maps.operations(d, what), model.operations(d, what)) : null;
            case 6: {
                int y = node();
                int z = node();
                called("operation", d, what, k, a, y, z);
                return random.nextInt(3) > 0 ? null
                        : same(maps.operation(d, what, k, a, y, z), model.operation(d, what, k, a, y, z));
            }
            case 7:
                called("duality", d, e, n, first);
                return same(maps.duality(d, e, n, first), model.duality(d, e, n, first));
            case 8: {
                int q = some(4) + (random.nextInt(10) == 0 ? 4 : 0);
                called("colours", d, q);
                return same(maps.colours(d, q), model.colours(d, q));
            }
            case 9:
                called("levels", d);
                return same(maps.levels(d), model.levels(d));
            case 10:
            case 11: {
                int which = some(1);
                called("folded", d, which);
                return same(maps.folded(d, which), model.folded(d, which));
            }
            case 12:
                called("orbit", d, a);
                return same(maps.orbit(d, a), model.orbit(d, a));
            case 13:
                called("between", d, e, n, first);
                return same(maps.between(d, e, n, first), model.between(d, e, n, first));
            default:
                called("unlike", d, e, n, first);
                return same(maps.unlike(d, e, n, first), model.unlike(d, e, n, first));
        }
    }

    private int[] keeping() {
        switch (random.nextInt(3)) {
            case 0: {
                int what = random.nextInt(3) == 0 ? some(3) : some(28);
                called("count", what);
                return same(maps.count(what), model.count(what));
            }
            case 1:
                called("keep");
                return same(maps.keep(), model.keep());
            default:
                if (random.nextInt(3) == 0) {
                    return null;
                }
                called("undo");
                return same(maps.undo(), model.undo());
        }
    }
}

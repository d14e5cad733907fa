import java.io.IOException;
import java.nio.file.Files;
import java.nio.file.Path;
import java.util.ArrayList;
import java.util.LinkedHashMap;
import java.util.List;
import java.util.Map;
import java.util.TreeMap;

/**
 * What the tests of boundary cases and of sentences share. Each test is named by the number of its promise and by
 * the words of the document that it looks at; the words are looked up there, so that no test outlives its sentence
 * unseen.
 */
abstract class Bounds {
    static final int NONE = -1;
    static final int EMPTY = -2;
    static final int LEAST = Integer.MIN_VALUE;
    static final int GREATEST = Integer.MAX_VALUE;

    static final String K2 = "2:0-1";
    static final String K3 = "3:0-1 1-2 2-0";
    static final String PATH = "3:0>1 1>2";
    static final String RING3 = "3:0>1 1>2 2>0";
    static final String RING7 = "7:0>1 1>2 2>3 3>4 4>5 5>6 6>0";
    static final String LOOP = "1:0>0";
    static final String ONE = "1:";

    private static final Path DOCUMENT = Path.of("..", "shared", "DOC.md");
    private static final Map<String, String> sections = sections();
    private static final Map<Integer, Integer> tests = new TreeMap<>();
    private static int wrong;
    private static int asked;
    private static String name = "";

    /** A call, with what it answered (a boolean counts 1 or 0). */
    interface Call {
        long of(NetMaps x);
    }

    /** A call that is made with one int or another. */
    interface CallWith {
        long of(NetMaps x, int with);
    }

    /** Makes an object and readies it; each time alike. */
    interface World {
        NetMaps made();
    }

    // ---- names of tests

    /** Begins a test: of a promise, by words of it or of the terms that it leans on. */
    static void test(int promise, String words) {
        name = "promise " + promise + ", '" + words + "'";
        tests.merge(promise, 1, Integer::sum);
        if (!sections.isEmpty() && !sections.getOrDefault("Promise " + promise, "").contains(words)
                && !sections.getOrDefault("Terms", "").contains(words)
                && !sections.getOrDefault("What it is", "").contains(words)) {
            wrong++;
            System.out.println(name + ": the document does not say so");
        }
    }

    /** The document's text by headings (of promises by number), its white space made single blanks. */
    static Map<String, String> sections() {
        Map<String, StringBuilder> texts = new LinkedHashMap<>();
        StringBuilder text = new StringBuilder();
        try {
            for (String line : Files.isReadable(DOCUMENT) ? Files.readAllLines(DOCUMENT) : List.<String>of()) {
                if (line.startsWith("## ")) {
                    text = new StringBuilder(line.replaceAll("^[^:]*: ", "")).append(' ');
                    texts.put(line.substring(3).replaceAll(":.*", ""), text);
                } else {
                    text.append(line.strip()).append(' ');
                }
            }
        } catch (IOException unreadable) {
            System.out.println("the document can't be read: " + unreadable);
        }
        Map<String, String> sections = new LinkedHashMap<>();
        texts.forEach((heading, words) -> sections.put(heading, words.toString().replaceAll("\\s+", " ")));
        return sections;
    }

    /** Tells how it went; each promise from first to last has a test. */
    static void end(int first, int last) {
        for (int promise = first; promise <= last; promise++) {
            if (!tests.containsKey(promise)) {
                wrong++;
                System.out.println("promise " + promise + " has no test of its boundaries");
            }
        }
        end("boundaries of promises " + first + " to " + last);
    }

    /** Tells how it went with the tests of something. */
    static void end(String what) {
        int all = 0;
        for (int many : tests.values()) {
            all += many;
        }
        System.out.println(what + ": "
                + (wrong == 0 ? all + " tests, " + asked + " answers" : wrong + " answers are not as due"));
        if (wrong != 0) {
            System.exit(1);
        }
    }

    // ---- what is due

    static void due(String call, long got, long want) {
        asked++;
        if (got != want) {
            wrong++;
            System.out.println(name + ": " + call + " answered " + got + ", due is " + want);
        }
    }

    static void due(String call, boolean got, boolean want) {
        due(call, bit(got), bit(want));
    }

    static long bit(boolean is) {
        return is ? 1 : 0;
    }

    static void dueText(NetMaps x, int d, String want) {
        String text = text(x, d);
        asked++;
        if (!text.equals(want)) {
            wrong++;
            System.out.println(name + ": drawer " + d + " holds " + text + ", due is " + want);
        }
        dueRowsBack(x, d);
    }

    /** The rows told backward are those told forward. */
    private static void dueRowsBack(NetMaps x, int d) {
        int nodes = x.told(d, 0);
        int[] from = new int[7];
        for (int a = 0; a < nodes; a++) {
            int to = x.row(d, a, true);
            for (int b = 0; b < nodes; b++) {
                from[b] |= (to >> b & 1) << a;
            }
        }
        for (int b = 0; b < nodes; b++) {
            due("row(" + d + ", " + b + ", false)", x.row(d, b, false), from[b]);
        }
    }

    /** A call that answers so, and changes nothing: all later calls answer as if it had not been. */
    static void stays(World world, String call, Call made, long want) {
        NetMaps asked = world.made();
        due(call, made.of(asked), want);
        List<Integer> shown = shown(asked);
        List<Integer> due = shown(world.made());
        if (!shown.equals(due)) {
            wrong++;
            System.out.println(name + ": " + call + " changed " + due + " to " + shown);
        }
    }

    /** The call (# in its name) with what is just outside, and with the least and the greatest int: it stays so. */
    static void refusesOutside(World world, String call, int least, int greatest, CallWith made, long want) {
        for (int with : outside(least, greatest)) {
            stays(world, named(call, with), x -> made.of(x, with), want);
        }
    }

    /** Both ends are still taken; nothing changes. */
    static void asksAtEnds(World world, String call, int least, int greatest, CallWith made, long... wants) {
        stays(world, named(call, least), x -> made.of(x, least), wants[0]);
        stays(world, named(call, greatest), x -> made.of(x, greatest), wants[wants.length - 1]);
    }

    static String named(String call, int with) {
        return call.replace("#", Integer.toString(with));
    }

    static int[] outside(int least, int greatest) {
        return new int[] {LEAST, least - 1, greatest + 1, GREATEST};
    }

    // ---- objects

    static int feed(NetMaps x, String text, int from) {
        int[] ints = new int[5];
        for (int i = 0; i < 20; i++) {
            int sign = from + i < text.length() ? text.charAt(from + i) : 'a';
            ints[i / 4] = ints[i / 4] << 8 | sign;
        }
        return x.feed(ints[0], ints[1], ints[2], ints[3], ints[4]);
    }

    /** Feeds a text whole (behind it, to the twenty, comes an a again and again). */
    static void feedAll(NetMaps x, String text) {
        for (int from = 0; from < text.length(); from += 20) {
            feed(x, text, from);
        }
    }

    static int told(NetMaps x, int d, String text) {
        feedAll(x, text);
        return x.net(d, text.length());
    }

    /** A new object with these texts in its drawers, from drawer 0 on; null leaves one empty. */
    static NetMaps with(String... texts) {
        NetMaps x = new NetMaps();
        for (int d = 0; d < texts.length; d++) {
            if (texts[d] != null && told(x, d, texts[d]) < 0) {
                throw new IllegalArgumentException(texts[d]);
            }
        }
        return x;
    }

    /**
     * Drawer 0 K2, 1 K3, 2 PATH, 3 seven nodes, 4 LOOP, 5 empty; some lists and weights, 40 bytes of a text, two
     * states that differ from these.
     */
    static NetMaps rich() {
        NetMaps x = with(null, RING3, null, "4:3>3", K2, PATH);
        x.list(0, 5);
        x.weigh(3, 2);
        x.keep();
        x.free();
        told(x, 0, K2);
        told(x, 1, K3);
        told(x, 2, PATH);
        x.put(3, 7);
        x.line(3, 6, 5, true);
        told(x, 4, LOOP);
        x.take(5);
        x.list(5, 3);
        x.weigh(6, 9);
        x.keep();
        x.line(3, 6, 5, false);
        x.list(6, 1);
        x.weigh(0, 4);
        feedAll(x, "4:0>1 1-2 2>3 3>3" + " ".repeat(23));
        return x;
    }

    /** Rich, with no choice left for node 0. */
    static NetMaps listless() {
        NetMaps x = rich();
        x.list(0, 0);
        return x;
    }

    /** Seven nodes with all lines, loops too, in drawer 0; none of these lines in drawer 1. */
    static NetMaps fullAndBare() {
        NetMaps x = new NetMaps();
        x.put(0, 7);
        x.change(0, 2);
        x.change(0, 3);
        x.put(1, 7);
        return x;
    }

    static String text(NetMaps x, int d) {
        StringBuilder text = new StringBuilder();
        int length = x.letter(d, NONE);
        for (int k = 0; k < length; k++) {
            text.append((char) x.letter(d, k));
        }
        return text.toString();
    }

    /** What later calls show of an object: all counts, drawers and a few maps, the tape read, all states undone. */
    static List<Integer> shown(NetMaps x) {
        List<Integer> shown = new ArrayList<>();
        for (int what = 0; what <= 2; what++) {
            shown.add(x.count(what));
        }
        showLists(x, shown);
        for (int d = 0; d < 6; d++) {
            showRows(x, d, shown);
        }
        // What a call looked for leaves no trace in what the next one looks for.
        shown.add(x.maps(0, 1, 0));
        shown.add(x.search(1, 1));
        shown.add(x.cheapest(0, 1, true, 2));
        shown.add(x.operations(0, 1));
        shown.add(x.steps(0, 1, 0, 2));
        int fed = x.count(1);
        if (fed > 0) {
            shown.add(x.net(5, Math.min(fed, 80)));
            showRows(x, 5, shown);
        }
        for (int left = x.undo(); left >= 0; left = x.undo()) {
            shown.add(left);
            showLists(x, shown);
            for (int d = 0; d < 6; d++) {
                shown.add(x.told(d, 0));
                shown.add(x.told(d, 1));
            }
        }
        return shown;
    }

    private static void showLists(NetMaps x, List<Integer> shown) {
        for (int a = 0; a < 7; a++) {
            shown.add(x.count(10 + a));
            shown.add(x.count(20 + a));
        }
    }

    private static void showRows(NetMaps x, int d, List<Integer> shown) {
        int nodes = x.told(d, 0);
        shown.add(nodes);
        for (int a = 0; a < nodes; a++) {
            shown.add(x.row(d, a, true));
            shown.add(x.row(d, a, false));
        }
    }
}

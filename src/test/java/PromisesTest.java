/** Each promise of the document by calls whose answers were worked out by hand. */
public final class PromisesTest {
    private static final int NONE = -1;
    private static final String K2 = "2:0-1";
    private static final String K3 = "3:0-1 1-2 2-0";
    private static final String PATH = "3:0>1 1>2";
    private static final String RING3 = "3:0>1 1>2 2>0";
    private static final String LOOP = "1:0>0";

    private static int wrong;
    private static int promise;
    private static int asked;

    public static void main(String[] args) {
        promise1();
        promise2();
        promise3();
        promise3Faults();
        promise3Refused();
        promise4();
        promise5();
        promise6();
        promise7();
        promise8();
        promise9();
        promise10();
        promise10Power();
        promise10Refused();
        promise11();
        promise12();
        promise13();
        promise14();
        promise15();
        promise16();
        promise16Sort4();
        promise17();
        promise18();
        promise19();
        promise20();
        promise21();
        promise22();
        promise23();
        promise24();
        promise25();
        promise26();
        promise27();
        promise28();
        promise29();
        promise30();
        promise31();
        promise32();
        promise33();
        promise34();
        promise35();
        promise36();
        promise37();
        promise38();
        promise39();
        promise40();
        promise41();
        promise42();
        promise43();
        promise44();
        begin(0);
        System.out.println(wrong == 0 ? "all promises hold" : wrong + " answers are not as due");
        if (wrong != 0) {
            System.exit(1);
        }
    }

    // ---- the harness

    private static void begin(int number) {
        if (promise != 0) {
            System.out.println("promise " + promise + ": " + asked + " answers looked at");
        }
        promise = number;
        asked = 0;
    }

    private static void due(String call, long got, long want) {
        asked++;
        if (got != want) {
            wrong++;
            System.out.println("promise " + promise + ": " + call + " answered " + got + ", due is " + want);
        }
    }

    private static void due(String call, boolean got, boolean want) {
        due(call, got ? 1 : 0, want ? 1 : 0);
    }

    private static int feed(NetMaps x, String text, int from) {
        int[] words = new int[5];
        for (int i = 0; i < 20; i++) {
            int sign = from + i < text.length() ? text.charAt(from + i) : 'a';
            words[i / 4] = words[i / 4] << 8 | sign;
        }
        return x.feed(words[0], words[1], words[2], words[3], words[4]);
    }

    /** Feeds a text whole and has it read. */
    private static int told(NetMaps x, int d, String text) {
        for (int from = 0; from < text.length(); from += 20) {
            feed(x, text, from);
        }
        return x.net(d, text.length());
    }

    /** A new object with these texts in its drawers, from drawer 0 on. */
    private static NetMaps with(String... texts) {
        NetMaps x = new NetMaps();
        for (int d = 0; d < texts.length; d++) {
            if (told(x, d, texts[d]) < 0) {
                throw new IllegalArgumentException(texts[d]);
            }
        }
        return x;
    }

    private static String text(NetMaps x, int d) {
        StringBuilder text = new StringBuilder();
        int length = x.letter(d, NONE);
        for (int k = 0; k < length; k++) {
            text.append((char) x.letter(d, k));
        }
        return text.toString();
    }

    private static void dueText(NetMaps x, int d, String want) {
        String text = text(x, d);
        asked++;
        if (!want.equals(text)) {
            wrong++;
            System.out.println("promise " + promise + ": drawer " + d + " holds " + text + ", due is " + want);
        }
        // The rows told backward are those told forward.
        for (int b = 0; b < x.told(d, 0); b++) {
            int from = 0;
            for (int a = 0; a < x.told(d, 0); a++) {
                from |= (x.row(d, a, true) >> b & 1) << a;
            }
            due("row(" + d + ", " + b + ", false)", x.row(d, b, false), from);
        }
    }

    // ---- texts, drawers

    private static void promise1() {
        begin(1);
        NetMaps x = new NetMaps();
        due("count(0)", x.count(0), 0);
        due("count(1)", x.count(1), 0);
        due("count(2)", x.count(2), 0);
        for (int a = 0; a < 7; a++) {
            due("list", x.count(10 + a), 127);
            due("weight", x.count(20 + a), 0);
        }
        for (int d = 0; d < 6; d++) {
            due("told(d, 0)", x.told(d, 0), -2);
            due("take(d)", x.take(d), 0);
        }
    }

    private static void promise2() {
        begin(2);
        NetMaps x = new NetMaps();
        for (int i = 1; i <= 8; i++) {
            due("feed", x.feed(0, 0, 0, 0, 0), 20 * i);
        }
        due("feed beyond 160", x.feed(0, 0, 0, 0, 0), NONE);
        due("count(1)", x.count(1), 160);
        // The highest byte of the first int first, the lowest of the last one last.
        x = new NetMaps();
        due("feed", x.feed(0x373A303E, 0x31313E32, 0x323E3333, 0x3E34343E, 0x35353E36), 20);
        due("net", x.net(0, 20), 6);
        dueText(x, 0, "7:0>11>22>33>44>55>6");
        // Bytes come behind those that are there; a high one is a byte like others.
        x = new NetMaps();
        feed(x, "2 :                 ", 0);
        due("feed", x.feed(0x303E3120, 0xFF000000, -1, -1, -1), 40);
        due("net", x.net(0, 25), -1024);
    }

    private static void promise3() {
        begin(3);
        NetMaps x = new NetMaps();
        due("net", told(x, 0, "1:"), 0);
        due("net", told(x, 0, "7:6-6"), 1);
        due("net", told(x, 0, "3:0-1"), 2);
        due("net", told(x, 0, " 3 : 0 - 1 1 > 2 "), 3);
        dueText(x, 0, "3:0-11>2");
        due("net", told(x, 0, "3:0>11>20>0"), 3);
        due("both ways, one there", told(x, 0, "2:0>1 0-1"), 2);
        due("both ways, the other there", told(x, 0, "2:1>0 0-1"), 2);
        String longest = "7:0>1" + " ".repeat(72) + "1>2";
        due("length", longest.length(), 80);
        due("net", told(x, 5, longest), 2);
        due("the tape is empty then", x.count(1), 0);
        feed(x, "3:0>1", 0);
        feed(x, "0>2", 0);
        due("the first bytes", x.net(1, 5), 1);
        due("the tape is empty then", x.count(1), 0);
        due("net", x.net(1, 1), NONE);
    }

    private static void promise3Faults() {
        NetMaps x = with(PATH);
        String[] texts = {
            "a", "", "x:", ":", "-", "8:", "9", "0:", "3", "3:0", "3:0>", "3;", "33:", "3:3>0", "3:0>3", "3:0>a",
            "3:a", "3:0=1", "3:01", "3::", "3:9>0", "3:0>9", "3:>", "3:0>1 0>1", "3:0-1 0>1", "3:0-1 1>0",
            "3:0-1 1-0", "3:0>0 0-0", "3:0>1 0>1 x", "3:0>1 0>7 0>1", "  8", "3:0>1 ,", "3:0>1\t", "3:\u00a00>1",
            "3:0>1 1", "3:\u00b0", "3:0\u003d1", "3:1-2 1-0 2-1",
        };
        int[] answers = {
            -1000, NONE, -1000, -1000, -1000, -2000, -2000, -2000, -1001, -1003, -1004, -1001, -1001, -2002, -2004,
            -1004, -1002, -1003, -1003, -1002, -2002, -2004, -1002, -3008, -3008, -3008, -3008, -3008, -3008, -2008,
            -2002, -1006, -1005, -1002, -1007, -1002, -1003, -3012,
        };
        for (int i = 0; i < texts.length; i++) {
            due("net of " + texts[i], told(x, 0, texts[i]), answers[i]);
            due("the tape after " + texts[i], x.count(1), 0);
        }
        dueText(x, 0, "3:0>11>2");
        due("blanks alone end at the length", told(x, 0, "    "), -1004);
        due("a blank behind a cut line", told(x, 0, "3:0  "), -1005);
        due("a full text that is cut", told(x, 0, "7:0>1" + " ".repeat(74) + "1"), -1080);
        NetMaps other = new NetMaps();
        for (int sign = 0; sign < 256; sign++) {
            boolean node = sign >= '0' && sign <= '6';
            boolean digit = sign >= '0' && sign <= '9';
            int want = sign == ' ' ? 0 : node ? -1003 : digit ? -2002 : -1002;
            due("sign " + sign, told(other, 0, "7:" + (char) sign), want);
        }
    }

    private static void promise3Refused() {
        NetMaps x = new NetMaps();
        feed(x, "2:0>1", 0);
        due("net(0, 0)", x.net(0, 0), NONE);
        due("net(0, -1)", x.net(0, -1), NONE);
        due("net(0, 21)", x.net(0, 21), NONE);
        due("net(-1, 5)", x.net(-1, 5), NONE);
        due("net(6, 5)", x.net(6, 5), NONE);
        due("the tape stays", x.count(1), 20);
        for (int i = 0; i < 4; i++) {
            feed(x, "", 0);
        }
        due("net(0, 81)", x.net(0, 81), NONE);
        due("the tape stays", x.count(1), 100);
        due("drawers stay", x.count(0), 0);
        due("net(0, 5)", x.net(0, 5), 1);
    }

    private static void promise4() {
        begin(4);
        NetMaps x = with(K3);
        due("put(0, 2)", x.put(0, 2), true);
        dueText(x, 0, "2:");
        due("put(5, 7)", x.put(5, 7), true);
        due("put(5, 1)", x.put(5, 1), true);
        due("put(5, 0)", x.put(5, 0), false);
        due("put(5, 8)", x.put(5, 8), false);
        due("put(6, 1)", x.put(6, 1), false);
        due("put(-1, 1)", x.put(-1, 1), false);
        dueText(x, 5, "1:");
        due("count(0)", x.count(0), 33);
    }

    private static void promise5() {
        begin(5);
        NetMaps x = with(K3, K2);
        due("take(0)", x.take(0), 1);
        due("take(0)", x.take(0), 0);
        due("take(6)", x.take(6), NONE);
        due("take(-1)", x.take(-1), NONE);
        due("count(0)", x.count(0), 2);
        due("told(0, 0)", x.told(0, 0), -2);
        due("put(0, 3)", x.put(0, 3), true);
        dueText(x, 0, "3:");
    }

    private static void promise6() {
        begin(6);
        NetMaps x = new NetMaps();
        due("empty", x.line(0, 0, 0, true), false);
        x.put(0, 3);
        due("line", x.line(0, 2, 1, true), true);
        due("so already", x.line(0, 2, 1, true), false);
        dueText(x, 0, "3:2>1");
        due("not so already", x.line(0, 1, 2, false), false);
        due("loop", x.line(0, 0, 0, true), true);
        due("row", x.row(0, 1, false), 4);
        due("no more", x.line(0, 2, 1, false), true);
        due("row", x.row(0, 1, false), 0);
        due("no such node", x.line(0, 3, 0, true), false);
        due("no such node", x.line(0, 0, 3, true), false);
        due("no such node", x.line(0, -1, 0, true), false);
        due("no such node", x.line(0, 0, -1, true), false);
        due("no such drawer", x.line(6, 0, 0, true), false);
        due("no such drawer", x.line(-1, 0, 0, true), false);
        dueText(x, 0, "3:0>0");
    }

    private static void promise7() {
        begin(7);
        NetMaps x = with("7:0>1 1>2 2>0 2>3 4>4 5>3", "2:0-1", "4:0>1", "4:0>1 1>2 2>3 3>0 0>3", "3:0>2 1>2 2>2");
        int[][] want = {
            {7, 6, 1, 3, 0, 1, 23, 2, 2},
            {2, 2, 0, 1, 1, 2, 3, 1, 1},
            {4, 1, 0, 3, 0, 0, 0, 1, 1},
            {4, 5, 0, 1, 0, 2, 15, 2, 2},
            {3, 3, 1, 1, 0, 1, 4, 1, 3},
        };
        for (int d = 0; d < want.length; d++) {
            for (int what = 0; what <= 8; what++) {
                due("told(" + d + ", " + what + ")", x.told(d, what), want[d][what]);
            }
        }
        x.put(5, 3);
        due("no lines are two-way", x.told(5, 4), 1);
        due("the most of no lines", x.told(5, 7), 0);
        due("the most of no lines", x.told(5, 8), 0);
        due("pieces", x.told(5, 3), 3);
        told(x, 5, "5:4>3 3>2 2>1 1>0");
        due("a piece told backward", x.told(5, 3), 1);
        told(x, 5, "4:0>1 0>2 3>1");
        due("a piece to and fro", x.told(5, 3), 1);
        told(x, 5, "2:0>0");
        due("the one ring at node 0", x.told(5, 5), 1);
        x.take(5);
        due("empty", x.told(5, 3), -2);
        due("told(5, 9)", x.told(5, 9), NONE);
        due("told(0, 9)", x.told(0, 9), NONE);
        due("told(0, -1)", x.told(0, -1), NONE);
        due("told(6, 0)", x.told(6, 0), NONE);
        due("told(-1, 0)", x.told(-1, 0), NONE);
    }

    private static void promise8() {
        begin(8);
        NetMaps x = with("3:0>1 0>2 2>0 1>1");
        due("row", x.row(0, 0, true), 6);
        due("row", x.row(0, 0, false), 4);
        due("row", x.row(0, 1, true), 2);
        due("row", x.row(0, 1, false), 3);
        due("row", x.row(0, 2, true), 1);
        due("no such node", x.row(0, 3, true), NONE);
        due("no such node", x.row(0, -1, true), NONE);
        due("no such drawer", x.row(6, 0, true), NONE);
        due("empty", x.row(1, 6, true), -2);
        due("empty, no node", x.row(1, 7, true), NONE);
    }

    private static void promise9() {
        begin(9);
        NetMaps x = with("7:0>1 1>2 2>3 3>4 4>5 5>6", "4:0>1 1>0 2>0 3>3");
        due("reach", x.reach(0, 0), 126);
        due("reach", x.reach(0, 5), 64);
        due("reach", x.reach(0, 6), 0);
        due("reach", x.reach(1, 0), 3);
        due("reach", x.reach(1, 2), 3);
        due("reach", x.reach(1, 3), 8);
        due("no such node", x.reach(1, 4), NONE);
        due("no such node", x.reach(1, -1), NONE);
        due("no such drawer", x.reach(-1, 0), NONE);
        due("empty", x.reach(2, 6), -2);
        due("empty, no node", x.reach(2, 7), NONE);
    }

    // ---- made

    private static void promise10() {
        begin(10);
        NetMaps x = with("2:0>1", "3:1>1 2>0", K2, "3:0-1 1>1");
        due("sum", x.make(0, 1, 4, 0), 3);
        dueText(x, 4, "5:0>13>34>2");
        due("sum", x.make(1, 0, 4, 0), 3);
        dueText(x, 4, "5:1>12>03>4");
        due("product", x.make(2, 0, 4, 1), 2);
        dueText(x, 4, "4:0>32>1");
        due("product", x.make(0, 1, 4, 1), 2);
        dueText(x, 4, "6:1>42>3");
        due("either", x.make(1, 3, 4, 2), 4);
        dueText(x, 4, "3:0-11>12>0");
        due("both", x.make(1, 3, 4, 3), 1);
        dueText(x, 4, "3:1>1");
        x.put(5, 1);
        x.line(5, 0, 0, true);
        due("times a loop", x.make(0, 5, 4, 1), 1);
        dueText(x, 4, "2:0>1");
        x.put(4, 7);
        x.put(5, 1);
        due("seven nodes", x.make(4, 5, 4, 1), 0);
        due("onto itself", x.make(0, 0, 0, 0), 2);
        dueText(x, 0, "4:0>12>3");
        due("the others stay", x.told(1, 1), 2);
    }

    private static void promise10Power() {
        NetMaps x = with("2:0>1", "2:0>1 1>1", "2:", "1:", LOOP);
        due("power", x.make(0, 0, 5, 4), 4);
        dueText(x, 5, "4:0>10>31>11>3");
        due("power", x.make(1, 0, 5, 4), 8);
        told(x, 5, "2:1>0");
        due("power by a line back", x.make(0, 5, 5, 4), 4);
        dueText(x, 5, "4:0>20>32>22>3");
        due("no lines to keep", x.make(0, 2, 5, 4), 16);
        due("by one node", x.make(0, 3, 5, 4), 4);
        due("by a loop", x.make(0, 4, 5, 4), 1);
        dueText(x, 5, "2:0>1");
        x.put(5, 7);
        due("of one node by seven", x.make(4, 5, 5, 4), 1);
        dueText(x, 5, "1:0>0");
        x.put(5, 7);
        x.line(5, 0, 1, true);
        due("of one node without a loop", x.make(3, 5, 5, 4), 0);
        dueText(x, 5, "1:");
        x.put(5, 7);
        due("of seven by one", x.make(5, 3, 5, 4), 49);
        due("told", x.told(5, 0), 7);
    }

    private static void promise10Refused() {
        NetMaps x = with("2:0>1", "3:0>1", "4:", "7:");
        due("sum beyond 7", x.make(2, 2, 4, 0), -3);
        due("sum of 7", x.make(1, 2, 5, 0), 1);
        due("product beyond 7", x.make(0, 2, 4, 1), -3);
        due("power beyond 7", x.make(0, 1, 4, 4), -3);
        due("power beyond 7", x.make(1, 0, 4, 4), -3);
        due("power far beyond 7", x.make(3, 3, 4, 4), -3);
        due("not as many", x.make(0, 1, 4, 2), -3);
        due("not as many", x.make(0, 1, 4, 3), -3);
        due("empty", x.make(4, 0, 0, 0), -2);
        due("empty", x.make(0, 4, 0, 2), -2);
        due("none first", x.make(4, 4, 0, 5), NONE);
        due("how", x.make(0, 0, 0, 5), NONE);
        due("how", x.make(0, 0, 0, -1), NONE);
        due("drawer", x.make(6, 0, 0, 0), NONE);
        due("drawer", x.make(0, 6, 0, 0), NONE);
        due("drawer", x.make(0, 0, 6, 0), NONE);
        due("drawer", x.make(-1, 0, 0, 0), NONE);
        due("nothing came of these", x.count(0), 47);
        dueText(x, 0, "2:0>1");
    }

    private static void promise11() {
        begin(11);
        String text = "4:0>1 1>0 1>2 3>3";
        String[] want = {
            "4:0-12>13>3", "4:0-11-23>3", "4:0-20-31-32>12-33>3", "4:0>00-11>11>22>23>3", "4:0-11>2",
            "1:0>0", "4:0>00-10>21>11>23>3",
        };
        int[] lines = {4, 5, 10, 7, 3, 1, 7};
        for (int how = 0; how <= 6; how++) {
            NetMaps x = with(text);
            due("change(0, " + how + ")", x.change(0, how), lines[how]);
            dueText(x, 0, want[how]);
        }
        NetMaps x = with("7:0>1 1>2 2>3 3>4 4>5 5>6", "5:0-1 1-2 2-3 3-4", RING3);
        due("all ways", x.change(0, 6), 21);
        due("core of a path", x.change(1, 5), 2);
        dueText(x, 1, "2:0-1");
        due("a core stays", x.change(2, 5), 3);
        due("empty", x.change(3, 0), -2);
        due("how", x.change(3, 7), NONE);
        due("how", x.change(0, -1), NONE);
        due("drawer", x.change(6, 0), NONE);
    }

    private static void promise12() {
        begin(12);
        NetMaps x = with("5:0>1 1>4 4>4 2>3 4-0", K2);
        due("part", x.part(0, 19, 2), 5);
        dueText(x, 2, "3:0>10-21>22>2");
        due("part", x.part(0, 12, 1), 1);
        dueText(x, 1, "2:0>1");
        due("none of them", x.part(0, 0, 1), -3);
        due("not its nodes", x.part(0, 32, 1), -3);
        due("not its nodes", x.part(0, 33, 1), -3);
        due("not its nodes", x.part(0, -1, 1), -3);
        due("empty ahead of none of them", x.part(3, 0, 1), -2);
        due("drawer", x.part(6, 1, 1), NONE);
        due("drawer", x.part(0, 1, 6), NONE);
        due("drawer ahead of empty", x.part(3, 1, -1), NONE);
        dueText(x, 1, "2:0>1");
        due("into itself", x.part(0, 31, 0), 6);
        due("into itself", x.part(0, 16, 0), 1);
        dueText(x, 0, "1:0>0");
    }

    private static void promise13() {
        begin(13);
        NetMaps x = new NetMaps();
        due("drawn", x.drawn(0, 3, 1, 5), 4);
        dueText(x, 0, "3:0-21-2");
        due("drawn", x.drawn(0, 3, -1, 5), 5);
        dueText(x, 0, "3:0-11-22>0");
        due("the lowest 16 bits", x.drawn(0, 3, 65537, 6), 5);
        dueText(x, 0, "3:0>10-21-2");
        due("drawn", x.drawn(1, 4, 12345, 3), 4);
        dueText(x, 1, "4:1-22>02>3");
        due("no tenths", x.drawn(2, 7, 5, 0), 0);
        due("all tenths", x.drawn(2, 7, 5, 10), 42);
        due("one node", x.drawn(3, 1, 5, 10), 0);
        due("nodes", x.drawn(0, 0, 5, 5), NONE);
        due("nodes", x.drawn(0, 8, 5, 5), NONE);
        due("tenths", x.drawn(0, 3, 5, -1), NONE);
        due("tenths", x.drawn(0, 3, 5, 11), NONE);
        due("drawer", x.drawn(6, 3, 5, 5), NONE);
        due("drawer", x.drawn(-1, 3, 5, 5), NONE);
        dueText(x, 0, "3:0>10-21-2");
    }

    // ---- maps

    private static void promise14() {
        begin(14);
        NetMaps x = new NetMaps();
        due("list", x.list(0, 0), 127);
        due("list", x.list(0, 127), 0);
        due("list", x.list(6, 5), 127);
        due("list", x.list(6, 5), 5);
        due("count", x.count(16), 5);
        due("list(7, 1)", x.list(7, 1), NONE);
        due("list(-1, 1)", x.list(-1, 1), NONE);
        due("list(0, 128)", x.list(0, 128), NONE);
        due("list(0, -1)", x.list(0, -1), NONE);
        due("count", x.count(10), 127);
    }

    private static void promise15() {
        begin(15);
        NetMaps x = new NetMaps();
        due("free", x.free(), 0);
        x.list(0, 5);
        x.list(3, 0);
        x.list(6, 126);
        x.list(2, 127);
        due("free", x.free(), 3);
        due("free", x.free(), 0);
        for (int a = 0; a < 7; a++) {
            due("count", x.count(10 + a), 127);
        }
    }

    private static void promise16() {
        begin(16);
        NetMaps x = with("4:0>1 2>3", K2, "2:", "3:", K3);
        due("all", x.maps(0, 1, 0), 4);
        due("one to one", x.maps(0, 1, 1), 0);
        due("reach all nodes", x.maps(0, 1, 2), 4);
        due("reach all lines", x.maps(0, 1, 3), 2);
        due("all", x.maps(2, 3, 0), 9);
        due("one to one", x.maps(2, 3, 1), 6);
        due("reach all nodes", x.maps(2, 3, 2), 0);
        due("reach all nodes", x.maps(3, 2, 2), 6);
        due("reach all lines where there are none", x.maps(3, 2, 3), 6);
        due("into more lines", x.maps(2, 1, 3), 0);
        due("no maps", x.maps(4, 1, 0), 0);
        x.list(0, 1);
        due("by lists", x.maps(0, 1, 0), 2);
        due("by lists", x.maps(0, 1, 3), 1);
        due("by lists", x.maps(2, 3, 1), 2);
        x.list(6, 0);
        due("lists of nodes that are not there", x.maps(0, 1, 0), 2);
        x.list(0, 124);
        due("bits that are not there", x.maps(0, 1, 0), 0);
        x.free();
        told(x, 5, "2:1>0");
        told(x, 4, "3:0>1 0>2");
        due("a line to the node ahead", x.maps(5, 4, 0), 2);
        told(x, 4, PATH);
        due("each line, with its way", x.maps(5, 5, 3), 1);
        due("each line, with its way", x.maps(4, 4, 3), 1);
        due("each line, with its way", x.maps(5, 4, 3), 0);
        x.put(5, 7);
        due("seven into seven", x.maps(5, 5, 0), 823543);
        due("seven into seven", x.maps(5, 5, 1), 5040);
        due("seven onto seven", x.maps(5, 5, 2), 5040);
        x.change(5, 2);
        x.change(5, 3);
        due("all lines", x.maps(5, 5, 0), 823543);
        due("all lines", x.maps(5, 5, 3), 5040);
    }

    private static void promise16Sort4() {
        NetMaps x = with(RING3, K2, "2:0>1", "2:1>0", "2:0>0");
        x.list(0, 1);
        due("by lists", x.maps(0, 0, 1), 1);
        due("no lists", x.maps(0, 0, 4), 3);
        x.free();
        due("a line more", x.maps(2, 1, 1), 2);
        due("a line more", x.maps(2, 1, 4), 0);
        due("a line less", x.maps(1, 2, 4), 0);
        due("turned", x.maps(2, 3, 4), 1);
        due("a loop is a line", x.maps(2, 4, 4), 0);
        x.put(5, 3);
        due("a node more", x.maps(0, 5, 4), 0);
        due("all", x.maps(5, 5, 4), 6);
        x.take(5);
        due("empty", x.maps(5, 0, 4), -2);
        due("empty", x.maps(0, 5, 0), -2);
        due("sort", x.maps(0, 5, 5), NONE);
        due("sort", x.maps(0, 0, -1), NONE);
        due("drawer", x.maps(6, 0, 0), NONE);
        due("drawer", x.maps(0, -1, 0), NONE);
    }

    private static void promise17() {
        begin(17);
        NetMaps x = with(K2, K3, "7:");
        int[][] want = {{0, 1}, {0, 2}, {1, 0}, {1, 2}, {2, 0}, {2, 1}};
        for (int k = 0; k < 6; k++) {
            due("map", x.map(0, 1, k, 0), want[k][0]);
            due("map", x.map(0, 1, k, 1), want[k][1]);
        }
        due("not so many", x.map(0, 1, 6, 0), -3);
        due("not so many", x.map(0, 1, Integer.MAX_VALUE, 0), -3);
        x.list(0, 4);
        due("by lists", x.map(0, 1, 0, 0), 2);
        due("by lists", x.map(0, 1, 1, 1), 1);
        due("by lists", x.map(0, 1, 2, 1), -3);
        x.free();
        due("the last of seven into seven", x.map(2, 2, 823542, 0), 6);
        due("the digits of 400000 by 7", x.map(2, 2, 400000, 1), 2);
        due("none beyond", x.map(2, 2, 823543, 1), -3);
        due("below 0", x.map(0, 1, -1, 0), NONE);
        due("no such node", x.map(0, 1, 0, 2), NONE);
        due("no such node", x.map(0, 1, 0, -1), NONE);
        due("no such node, the other empty", x.map(0, 3, 0, 2), NONE);
        due("empty", x.map(0, 3, 0, 1), -2);
        due("empty", x.map(3, 0, 0, 6), -2);
        due("empty, no node", x.map(3, 0, 0, 7), NONE);
        due("drawer", x.map(0, 6, 0, 0), NONE);
        due("drawer", x.map(6, 0, 0, 0), NONE);
    }

    private static void promise18() {
        begin(18);
        NetMaps x = with(K2, K3, PATH);
        due("becomes", x.becomes(0, 1, 0, 1), 2);
        due("becomes", x.becomes(2, 2, 1, 1), 1);
        due("becomes", x.becomes(2, 2, 1, 0), 0);
        x.list(1, 3);
        due("by lists", x.becomes(0, 1, 0, 1), 1);
        due("by lists", x.becomes(0, 1, 1, 2), 0);
        due("no such node", x.becomes(0, 1, 2, 0), NONE);
        due("no such node", x.becomes(0, 1, 0, 3), NONE);
        due("no such node", x.becomes(0, 1, -1, 0), NONE);
        due("no such node", x.becomes(0, 1, 0, -1), NONE);
        due("empty", x.becomes(0, 5, 1, 6), -2);
        due("empty, no node", x.becomes(0, 5, 1, 7), NONE);
        due("empty, no node of the other", x.becomes(0, 5, 2, 0), NONE);
        due("empty", x.becomes(5, 0, 6, 1), -2);
        due("empty, no node of the other", x.becomes(5, 0, 6, 2), NONE);
        due("drawer", x.becomes(6, 0, 0, 0), NONE);
        due("drawer", x.becomes(0, 6, 0, 0), NONE);
    }

    private static void promise19() {
        begin(19);
        NetMaps x = with(PATH, K3, K2, LOOP, "2:0-1 1>1");
        due("left", x.left(0, 0, 0), 1);
        due("left", x.left(0, 0, 1), 2);
        due("left", x.left(0, 0, 2), 4);
        due("each line alone has no fault", x.left(1, 2, 0), 3);
        due("though there is no map", x.maps(1, 2, 0), 0);
        due("of a loop what has none", x.left(3, 2, 0), 0);
        due("of a loop what has one", x.left(3, 4, 0), 2);
        x.list(0, 1);
        due("by lists", x.left(1, 1, 0), 1);
        due("by lists", x.left(1, 1, 1), 6);
        due("lists stay", x.count(11), 127);
        x.list(1, 0);
        due("nothing is left", x.left(1, 1, 2), 0);
        x.free();
        x.list(2, 4);
        due("what goes out at the end goes out at the beginning", x.left(0, 0, 0), 1);
        told(x, 4, "7:0>1 1>2 2>3 3>4 4>5 5>6");
        x.list(2, 127);
        x.list(6, 64);
        for (int a = 0; a < 7; a++) {
            due("left of a long path", x.left(4, 4, a), 1 << a);
        }
        due("no such node", x.left(0, 0, 3), NONE);
        due("no such node", x.left(0, 0, -1), NONE);
        due("no such node, the other empty", x.left(0, 5, 3), NONE);
        due("empty", x.left(0, 5, 2), -2);
        due("empty", x.left(5, 0, 6), -2);
        due("empty, no node", x.left(5, 0, 7), NONE);
        due("drawer", x.left(0, 6, 0), NONE);
        due("drawer", x.left(-1, 0, 0), NONE);
    }

    private static void promise20() {
        begin(20);
        NetMaps x = with(RING3, "4:0>1 1>2 2>3 3>0", "6:0>1 1>2 2>3 3>4 4>5 5>0", PATH);
        due("neither", x.fits(0, 1), 0);
        due("one", x.fits(2, 0), 1);
        due("other", x.fits(0, 2), 2);
        due("both", x.fits(0, 0), 3);
        due("one", x.fits(3, 1), 1);
        x.list(0, 0);
        due("no lists", x.fits(0, 0), 3);
        due("empty", x.fits(0, 5), -2);
        due("empty", x.fits(5, 0), -2);
        due("drawer", x.fits(5, 6), NONE);
        due("drawer", x.fits(-1, 0), NONE);
    }

    private static void promise21() {
        begin(21);
        NetMaps x = with(K3, K2, "3:0>2 1>2", "4:0>1 2>3", LOOP, "2:1>1");
        due("search", x.search(0, 0), 3);
        due("all is tried", x.search(0, 1), 4);
        due("a loop is asked at once", x.search(4, 5), 1);
        due("a loop is asked at once", x.search(4, 1), 0);
        x.list(1, 4);
        due("search", x.search(2, 3), 7);
        x.list(0, 0);
        due("nothing to try", x.search(2, 3), 0);
        x.free();
        x.put(5, 7);
        x.list(6, 0);
        due("all is tried", x.search(5, 5), 7 + 49 + 343 + 2401 + 16807 + 117649);
        x.free();
        due("search", x.search(5, 5), 7);
        x.take(5);
        due("empty", x.search(5, 0), -2);
        due("empty", x.search(0, 5), -2);
        due("drawer", x.search(6, 5), NONE);
        due("drawer", x.search(0, -1), NONE);
    }

    private static void promise22() {
        begin(22);
        NetMaps x = with(PATH, K2, LOOP);
        due("tighten", x.tighten(0, 0), 6);
        due("list", x.count(10), 1);
        due("list", x.count(11), 2);
        due("list", x.count(12), 4);
        due("no node of it", x.count(13), 127);
        due("again", x.tighten(0, 0), 0);
        x.free();
        x.list(0, 125);
        due("what is not there does not go out", x.tighten(1, 1), 1);
        due("list", x.count(10), 1);
        due("list", x.count(11), 2);
        x.free();
        due("nothing went out", x.tighten(1, 1), 0);
        due("though the list is what is left", x.count(10), 3);
        due("no loop", x.tighten(2, 1), 2);
        due("list", x.count(10), 0);
        due("empty", x.tighten(5, 0), -2);
        due("empty", x.tighten(0, 5), -2);
        due("drawer", x.tighten(6, 0), NONE);
        due("drawer", x.tighten(5, -1), NONE);
        due("lists stay", x.count(11), 3);
    }

    private static void promise23() {
        begin(23);
        NetMaps x = with("4:0>1 2>3", "4:0-1 2-3", "2:", K3, K2);
        due("fewest", x.image(0, 1, true, 0), 2);
        due("how many", x.image(0, 1, true, 1), 8);
        due("the first", x.image(0, 1, true, 2), 0);
        due("most", x.image(0, 1, false, 0), 4);
        due("how many", x.image(0, 1, false, 1), 8);
        due("the first", x.image(0, 1, false, 2), 2);
        x.list(0, 3);
        x.list(1, 2);
        due("by lists", x.image(2, 2, true, 0), 1);
        due("by lists", x.image(2, 2, true, 1), 1);
        due("by lists", x.image(2, 2, true, 2), 1);
        due("by lists", x.image(2, 2, false, 2), 0);
        x.free();
        due("no maps", x.image(3, 4, true, 0), -4);
        due("no maps", x.image(3, 4, false, 2), -4);
        x.put(5, 7);
        due("seven", x.image(5, 5, false, 0), 7);
        due("seven", x.image(5, 5, false, 1), 5040);
        due("one", x.image(5, 5, true, 1), 7);
        x.change(5, 2);
        due("no fewer than seven", x.image(5, 5, true, 0), 7);
        due("no fewer than seven", x.image(5, 5, true, 1), 5040);
        x.put(5, 7);
        x.change(5, 3);
        due("no more than one", x.image(4, 5, false, 0), 1);
        due("no more than one", x.image(4, 5, false, 1), 7);
        due("no more than one", x.image(4, 5, false, 2), 0);
        x.take(5);
        due("empty", x.image(5, 0, true, 0), -2);
        due("empty", x.image(0, 5, true, 0), -2);
        due("what", x.image(0, 5, true, 3), NONE);
        due("what", x.image(0, 0, true, -1), NONE);
        due("drawer", x.image(6, 0, true, 0), NONE);
        due("drawer", x.image(0, -1, true, 0), NONE);
    }

    private static void promise24() {
        begin(24);
        NetMaps x = new NetMaps();
        due("weigh", x.weigh(0, 9), 0);
        due("weigh", x.weigh(0, 4), 9);
        due("weigh", x.weigh(6, 1), 0);
        due("count", x.count(20), 4);
        due("count", x.count(26), 1);
        due("node", x.weigh(7, 0), NONE);
        due("node", x.weigh(-1, 0), NONE);
        due("weight", x.weigh(0, 10), NONE);
        due("weight", x.weigh(0, -1), NONE);
        due("count", x.count(20), 4);
    }

    private static void promise25() {
        begin(25);
        NetMaps x = with("2:", "3:", K2, K3);
        due("no weights", x.cheapest(0, 1, true, 0), 0);
        due("all alike", x.cheapest(0, 1, false, 1), 9);
        x.weigh(0, 5);
        x.weigh(1, 2);
        x.weigh(2, 2);
        due("least", x.cheapest(0, 1, true, 0), 4);
        due("how many", x.cheapest(0, 1, true, 1), 4);
        due("the first", x.cheapest(0, 1, true, 2), 4);
        due("most", x.cheapest(0, 1, false, 0), 10);
        due("how many", x.cheapest(0, 1, false, 1), 1);
        due("the first", x.cheapest(0, 1, false, 2), 0);
        x.weigh(0, 9);
        x.weigh(1, 0);
        x.weigh(2, 3);
        due("least", x.cheapest(2, 3, true, 0), 3);
        due("how many", x.cheapest(2, 3, true, 1), 2);
        due("the first", x.cheapest(2, 3, true, 2), 3);
        due("most", x.cheapest(2, 3, false, 0), 12);
        due("the first", x.cheapest(2, 3, false, 2), 1);
        x.list(0, 1);
        due("by lists", x.cheapest(2, 3, true, 0), 9);
        due("by lists", x.cheapest(2, 3, true, 2), 0);
        x.free();
        due("no maps", x.cheapest(3, 2, true, 0), -4);
        due("no maps", x.cheapest(3, 2, false, 1), -4);
        x.list(1, 0);
        due("no maps", x.cheapest(0, 1, false, 2), -4);
        x.free();
        x.put(0, 7);
        x.put(1, 2);
        x.weigh(0, 1);
        x.weigh(1, 3);
        due("seven", x.cheapest(0, 1, true, 0), 7);
        due("seven", x.cheapest(0, 1, false, 0), 21);
        due("seven", x.cheapest(0, 1, false, 2), 127);
        x.put(0, 2);
        due("two behind seven", x.cheapest(0, 1, false, 2), 3);
        due("two behind seven", x.cheapest(0, 1, true, 0), 2);
        due("two behind seven", x.cheapest(0, 1, true, 1), 1);
        x.weigh(0, 0);
        x.weigh(1, 5);
        x.weigh(2, 7);
        x.weigh(3, 9);
        told(x, 0, PATH);
        told(x, 1, "4:0>1 2>3 3>1");
        due("light ones that are no maps", x.cheapest(0, 1, true, 0), 21);
        due("light ones that are no maps", x.cheapest(0, 1, true, 1), 1);
        due("empty", x.cheapest(5, 0, true, 0), -2);
        due("empty", x.cheapest(0, 5, true, 0), -2);
        due("what", x.cheapest(0, 5, true, 3), NONE);
        due("what", x.cheapest(0, 0, true, -1), NONE);
        due("drawer", x.cheapest(6, 0, true, 0), NONE);
        due("drawer", x.cheapest(0, -1, true, 0), NONE);
    }

    private static void promise26() {
        begin(26);
        NetMaps x = with(K2, K3, "7:");
        x.list(0, 0);
        due("behind", x.behind(0, 1, 1, 3, 3), 4);
        due("behind", x.behind(0, 1, 1, 0, 0), 0);
        due("behind", x.behind(1, 1, 1, 3, 4), 0);
        due("behind", x.behind(1, 1, 1, 1, 2), 3);
        due("behind", x.behind(1, 1, 1, 2, 1), 4);
        due("seven", x.behind(2, 2, 2, 823542, 823541), 5 * 137257);
        told(x, 3, "2:0>1");
        told(x, 4, PATH);
        told(x, 5, "4:0>1 0>2 0>3 1>2 2>3");
        due("three networks", x.behind(3, 4, 5, 1, 2), 4);
        due("three networks", x.behind(3, 4, 5, 0, 2), 3);
        due("three networks", x.behind(3, 4, 5, 1, 0), 3);
        due("three networks, not so many", x.behind(3, 4, 5, 1, 3), -3);
        x.take(5);
        due("not so many", x.behind(0, 1, 1, 6, 0), -3);
        due("not so many", x.behind(0, 1, 1, 0, 6), -3);
        due("below 0", x.behind(0, 1, 1, -1, 0), NONE);
        due("below 0", x.behind(0, 1, 1, 0, -1), NONE);
        due("empty", x.behind(5, 1, 1, 0, 0), -2);
        due("empty", x.behind(0, 5, 1, 0, 0), -2);
        due("empty ahead of not so many", x.behind(0, 1, 5, 6, 0), -2);
        due("drawer", x.behind(6, 1, 1, 0, 0), NONE);
        due("drawer", x.behind(0, -1, 1, 0, 0), NONE);
        due("drawer", x.behind(0, 1, 6, 0, 0), NONE);
    }

    // ---- cores

    private static void promise27() {
        begin(27);
        NetMaps x = with("3:", "3:0-1 1-2", K3, "3:0-1 2>2", "4:0-1 2-3", "4:2>3 1>0");
        // Of a line both ways and a loop: both its ends stay, or both become the loop's node.
        int[][] want = {{10, 1, 1, 7}, {3, 3, 2, 3}, {1, 7, 3, 1}, {2, 4, 1, 2}, {5, 3, 2, 3}, {3, 3, 2, 3}};
        for (int d = 0; d < want.length; d++) {
            for (int what = 0; what <= 3; what++) {
                due("core(" + d + ", " + what + ")", x.core(d, what), want[d][what]);
            }
        }
        x.list(0, 0);
        due("no lists", x.core(0, 0), 10);
        x.free();
        due("other maps are no retractions", x.maps(0, 0, 0), 27);
        x.put(0, 7);
        due("seven", x.core(0, 0), 6322);
        due("seven", x.core(0, 3), 127);
        x.take(5);
        due("empty", x.core(5, 0), -2);
        due("what", x.core(5, 4), NONE);
        due("what", x.core(0, -1), NONE);
        due("drawer", x.core(6, 0), NONE);
        due("drawer", x.core(-1, 0), NONE);
    }

    private static void promise28() {
        begin(28);
        NetMaps x = with("3:", "3:0-1 1-2");
        int[][] want = {
            {0, 0, 0}, {0, 0, 2}, {0, 1, 0}, {0, 1, 1}, {0, 1, 2}, {0, 2, 2}, {1, 1, 1}, {1, 1, 2}, {2, 1, 2},
            {2, 2, 2},
        };
        x.list(0, 0);
        for (int k = 0; k < want.length; k++) {
            for (int a = 0; a < 3; a++) {
                due("retraction(0, " + k + ", " + a + ")", x.retraction(0, k, a), want[k][a]);
            }
        }
        due("not so many", x.retraction(0, 10, 0), -3);
        due("not so many", x.retraction(1, 3, 0), -3);
        due("retraction", x.retraction(1, 2, 0), 2);
        due("below 0", x.retraction(0, -1, 0), NONE);
        due("no such node", x.retraction(0, 0, 3), NONE);
        due("no such node", x.retraction(0, 0, -1), NONE);
        due("empty", x.retraction(5, 0, 6), -2);
        due("empty, no node", x.retraction(5, 0, 7), NONE);
        due("drawer", x.retraction(6, 0, 0), NONE);
    }

    // ---- maps beside maps

    private static void promise29() {
        begin(29);
        NetMaps x = with(K2, K3, "7:", "3:", "5:", "6:");
        due("steps", x.steps(0, 1, 0, 0), 0);
        due("steps", x.steps(0, 1, 0, 1), 1);
        due("steps", x.steps(0, 1, 0, 2), 3);
        due("steps", x.steps(0, 1, 2, 0), 3);
        due("steps", x.steps(0, 1, 5, 1), 2);
        due("frozen", x.steps(1, 1, 0, 1), -4);
        due("frozen", x.steps(1, 1, 1, 1), 0);
        due("all nodes", x.steps(3, 3, 0, 26), 3);
        due("more than 2000", x.steps(2, 3, 0, 0), -3);
        due("not so many", x.steps(0, 1, 6, 0), -3);
        due("not so many", x.steps(0, 1, 0, 6), -3);
        x.list(0, 63);
        due("by lists", x.steps(2, 3, 0, 1), -3);
        x.list(0, 3);
        due("by lists", x.steps(2, 3, 0, 1457), 7);
        x.list(1, 3);
        due("lists cut the way", x.steps(0, 1, 0, 1), -4);
        x.list(0, 7);
        due("a longer way", x.steps(0, 1, 0, 1), 3);
        due("not so many by lists", x.steps(0, 1, 0, 4), -3);
        x.free();
        due("below 0", x.steps(0, 1, -1, 0), NONE);
        due("below 0", x.steps(0, 1, 0, -1), NONE);
        x.take(5);
        due("empty", x.steps(5, 0, 0, 0), -2);
        due("empty", x.steps(0, 5, 0, 0), -2);
        due("drawer", x.steps(6, 0, 0, 0), NONE);
        due("drawer", x.steps(5, -1, 0, 0), NONE);
        due("no maps", x.steps(1, 0, 0, 0), -3);
    }

    private static void promise30() {
        begin(30);
        NetMaps x = with(K2, K3, "7:", "3:", "5:");
        int[][] nets = {{0, 1}, {1, 1}, {1, 0}, {3, 3}};
        int[][] want = {{0, 1, 6, 6}, {6, 6, 1, 0}, {0, 0, 0, 0}, {0, 1, 27, 81}};
        for (int i = 0; i < nets.length; i++) {
            for (int what = 0; what <= 3; what++) {
                due("crowds " + i + ", " + what, x.crowds(nets[i][0], nets[i][1], what), want[i][what]);
            }
        }
        due("more than 2000", x.crowds(2, 3, 0), -3);
        x.list(3, 15);
        x.list(4, 15);
        int[] greatest = {0, 1, 2000, 18000};
        for (int what = 0; what <= 3; what++) {
            due("2000, " + what, x.crowds(4, 4, what), greatest[what]);
        }
        x.free();
        told(x, 3, "6:0>2 0>3 0>5 2>1 3>4 5>1");
        told(x, 4, "4:0>0 0-1 0-3 1>1 1-2 1-3 2>0 2>2 3>2 3>3");
        due("one more than 2000", x.maps(3, 4, 0), 2001);
        due("one more than 2000", x.crowds(3, 4, 0), -3);
        due("one more than 2000", x.steps(3, 4, 0, 0), -3);
        x.free();
        x.list(0, 4);
        due("by lists", x.crowds(0, 1, 3), 1);
        due("by lists", x.crowds(0, 1, 2), 2);
        x.list(0, 3);
        x.list(1, 3);
        due("by lists", x.crowds(0, 1, 0), 2);
        due("empty", x.crowds(5, 0, 0), -2);
        due("empty", x.crowds(0, 5, 0), -2);
        due("what", x.crowds(0, 5, 4), NONE);
        due("what", x.crowds(0, 0, -1), NONE);
        due("drawer", x.crowds(6, 0, 0), NONE);
        due("drawer", x.crowds(0, -1, 0), NONE);
    }

    // ---- operations, dualities

    private static void promise31() {
        begin(31);
        NetMaps x = with(K2, "2:", "3:", "1:", "2:0>0 0>1 1>1", K3);
        int[][] want = {
            {4, 2, 0, 1}, {16, 4, 2, 1}, {19683, 729, 27, 729}, {1, 1, 1, 1}, {6, 4, 2, 1}, {12, 2, 0, 0},
        };
        x.list(0, 0);
        for (int d = 0; d < want.length; d++) {
            for (int what = 0; what <= 3; what++) {
                due("operations(" + d + ", " + what + ")", x.operations(d, what), want[d][what]);
            }
        }
        told(x, 0, "2:1>0");
        due("a line back", x.operations(0, 0), 4);
        due("a line back", x.operations(0, 1), 4);
        due("a line back", x.operations(0, 2), 2);
        x.put(0, 4);
        due("more than 3", x.operations(0, 3), -3);
        due("what", x.operations(0, 4), NONE);
        due("what", x.operations(0, -1), NONE);
        x.take(0);
        due("empty", x.operations(0, 0), -2);
        due("drawer", x.operations(6, 0), NONE);
        due("drawer", x.operations(-1, 0), NONE);
    }

    private static void promise32() {
        begin(32);
        NetMaps x = with("2:0>0 0>1 1>1", "3:", "3:0-1", "4:");
        int[][] idle = {{0, 0, 0, 1}, {0, 0, 1, 1}, {0, 1, 0, 1}, {0, 1, 1, 1}};
        for (int k = 0; k < 4; k++) {
            for (int i = 0; i < 4; i++) {
                due("idle " + k, x.operation(0, 1, k, i / 2, i % 2, 99), idle[k][i]);
            }
        }
        due("all", x.operation(0, 0, 0, 1, 1, 0), 0);
        due("all", x.operation(0, 0, 5, 0, 0, 0), 1);
        due("fair", x.operation(0, 2, 0, 1, 0, 0), 0);
        due("fair", x.operation(0, 2, 1, 1, 0, 0), 1);
        due("fair", x.operation(0, 2, 1, 0, 1, 0), 1);
        // Fair on three: f(0, 1), f(0, 2), f(1, 2) are the digits of k.
        due("fair", x.operation(1, 2, 5, 1, 0, 0), 0);
        due("fair", x.operation(1, 2, 5, 2, 0, 0), 1);
        due("fair", x.operation(1, 2, 5, 2, 1, 0), 2);
        due("fair", x.operation(1, 2, 5, 2, 2, 0), 2);
        due("fair", x.operation(1, 2, 0, 2, 1, 0), 0);
        due("fair", x.operation(1, 2, 0, 1, 1, 0), 1);
        due("fair", x.operation(1, 2, 26, 1, 1, 0), 1);
        due("fair", x.operation(1, 2, 9, 1, 2, 0), 0);
        due("majority", x.operation(1, 3, 1, 2, 1, 0), 1);
        due("majority", x.operation(1, 3, 1, 0, 1, 2), 0);
        due("majority", x.operation(1, 3, 243, 0, 1, 2), 1);
        due("majority", x.operation(1, 3, 728, 0, 1, 1), 1);
        due("majority", x.operation(1, 3, 728, 1, 0, 1), 1);
        due("majority", x.operation(1, 3, 728, 2, 2, 0), 2);
        due("not so many", x.operation(1, 3, 729, 0, 0, 0), -4);
        due("not so many", x.operation(0, 1, 4, 0, 0, 0), -4);
        due("not so many", x.operation(0, 2, 2, 0, 0, 0), -4);
        due("more than 3", x.operation(3, 0, 0, 3, 3, 0), -3);
        due("no such node", x.operation(3, 0, 0, 4, 3, 0), NONE);
        due("no such node", x.operation(0, 0, 0, 2, 0, 0), NONE);
        due("no such node", x.operation(0, 0, 0, 0, 2, 0), NONE);
        due("no such node", x.operation(0, 3, 0, 0, 0, 2), NONE);
        due("no such node", x.operation(0, 3, 0, 0, 0, -1), NONE);
        due("below 0", x.operation(0, 0, -1, 0, 0, 0), NONE);
        due("what", x.operation(0, 4, 0, 0, 0, 0), NONE);
        due("what", x.operation(0, -1, 0, 0, 0, 0), NONE);
        due("empty", x.operation(5, 3, 0, 6, 6, 6), -2);
        due("empty, no node", x.operation(5, 3, 0, 6, 6, 7), NONE);
        due("drawer", x.operation(6, 0, 0, 0, 0, 0), NONE);
    }

    private static void promise33() {
        begin(33);
        NetMaps x = with("2:0>1", "1:", PATH, K2, LOOP);
        for (int n = 1; n <= 3; n++) {
            due("a line and no line", x.duality(0, 1, n, false), 0);
            due("a line and no line", x.duality(0, 1, n, true), -4);
            due("two lines and one line", x.duality(2, 0, n, false), 0);
            due("both hold of all", x.duality(1, 4, n, false), 1 << n * n);
            due("both hold of all", x.duality(1, 4, n, true), 0);
        }
        due("none holds", x.duality(3, 1, 2, false), 2);
        due("none holds", x.duality(3, 1, 2, true), 2);
        due("none holds", x.duality(3, 1, 3, false), 26);
        due("the line 0 to 1 of three", x.duality(3, 1, 3, true), 2);
        due("either holds", x.duality(0, 0, 2, false), 2);
        x.list(0, 0);
        due("no lists", x.duality(0, 1, 2, false), 0);
        due("nodes", x.duality(0, 1, 0, false), NONE);
        due("nodes", x.duality(5, 1, 4, false), NONE);
        due("empty", x.duality(5, 1, 1, false), -2);
        due("empty", x.duality(1, 5, 1, true), -2);
        due("drawer", x.duality(6, 1, 1, false), NONE);
        due("drawer", x.duality(1, -1, 1, false), NONE);
    }

    private static void promise34() {
        begin(34);
        NetMaps x = with("5:0-1 1-2 2-3 3-4 4-0", K3, "3:", "2:0>1", LOOP, "7:");
        x.list(0, 0);
        due("a ring of five by 2", x.colours(0, 2), 0);
        due("a ring of five by 3", x.colours(0, 3), 30);
        due("a ring of five by 4", x.colours(0, 4), 240);
        due("three by 3", x.colours(1, 3), 6);
        due("three by 7", x.colours(1, 7), 210);
        due("no lines", x.colours(2, 7), 343);
        due("no lines", x.colours(2, 1), 1);
        due("one way", x.colours(3, 2), 2);
        due("one way", x.colours(3, 1), 0);
        due("a loop", x.colours(4, 7), 0);
        due("seven", x.colours(5, 7), 823543);
        due("q", x.colours(0, 0), NONE);
        due("q", x.colours(0, 8), NONE);
        x.take(5);
        due("empty", x.colours(5, 1), -2);
        due("q", x.colours(5, 8), NONE);
        due("drawer", x.colours(6, 1), NONE);
    }

    private static void promise35() {
        begin(35);
        NetMaps x = with("7:0>1 1>2 2>3 3>4 4>5 5>6", "7:", "4:0>1 2>1 2>3", "3:0>1 1>2 0>2", RING3);
        x.list(0, 0);
        due("six", x.levels(0), 6);
        due("none", x.levels(1), 0);
        due("one", x.levels(2), 1);
        due("two ways of unlike length", x.levels(3), -4);
        due("a ring", x.levels(4), -4);
        due("empty", x.levels(5), -2);
        told(x, 5, LOOP);
        due("a loop", x.levels(5), -4);
        told(x, 5, "5:0>1 1>2 3>4 4>2");
        due("two", x.levels(5), 2);
        due("drawer", x.levels(6), NONE);
        due("drawer", x.levels(-1), NONE);
    }

    private static void promise36() {
        begin(36);
        String[] texts = {
            "3:0-1 1-2", "3:", K3, "4:0-1 1-2 2-3 3-0", "2:0>1 1>1", "2:0>1 0>0", "4:0-1 1-2 2-3", "2:0>1", "1:",
            "3:0>1 0>2 1>2", "2:0>0 1>1", "3:2>0 2>1 1>2", "3:0>1 2>1", "3:1>0 1>2",
        };
        int[] want = {6, 4, 7, 12, 2, 1, 12, 3, 1, 7, 3, 6, 6, 6};
        for (int i = 0; i < texts.length; i++) {
            NetMaps x = with(texts[i]);
            due("folded of " + texts[i], x.folded(0, 0), want[i]);
            due("folded of " + texts[i], x.folded(0, 1), Integer.bitCount(want[i]));
            told(x, 1, texts[i]);
            dueText(x, 0, text(x, 1));
        }
        NetMaps x = with(K3);
        due("empty", x.folded(1, 0), -2);
        due("what", x.folded(1, 2), NONE);
        due("what", x.folded(0, -1), NONE);
        due("drawer", x.folded(6, 0), NONE);
    }

    private static void promise37() {
        begin(37);
        NetMaps x = with("3:0-1 1-2", RING3, "2:0>0", "7:", "4:0>1 2>3");
        x.list(0, 0);
        due("ends", x.orbit(0, 0), 5);
        due("middle", x.orbit(0, 1), 2);
        due("ring", x.orbit(1, 2), 7);
        due("loop", x.orbit(2, 0), 1);
        due("no loop", x.orbit(2, 1), 2);
        due("seven", x.orbit(3, 3), 127);
        due("tails", x.orbit(4, 2), 5);
        due("heads", x.orbit(4, 1), 10);
        due("no such node", x.orbit(0, 3), NONE);
        due("no such node", x.orbit(0, -1), NONE);
        due("empty", x.orbit(5, 6), -2);
        due("empty, no node", x.orbit(5, 7), NONE);
        due("drawer", x.orbit(6, 0), NONE);
    }

    private static void promise38() {
        begin(38);
        NetMaps x = with("1:", K2, "2:0>1", LOOP);
        x.list(0, 0);
        due("one node", x.between(0, 1, 1, false), 0);
        due("one node", x.between(0, 1, 1, true), -4);
        due("two nodes", x.between(0, 1, 2, false), 2);
        due("two nodes", x.between(0, 1, 2, true), 2);
        due("three nodes", x.between(0, 1, 3, false), 18);
        due("nothing between", x.between(0, 2, 3, false), 0);
        due("nothing between", x.between(0, 0, 3, true), -4);
        due("none back to the first", x.between(2, 3, 1, false), 0);
        due("none back to the second", x.between(1, 0, 2, false), 0);
        // From a line to a loop: what has a way of two lines, but no loop; the first is 0>1 1>0.
        due("two nodes", x.between(2, 3, 2, false), 1);
        due("two nodes", x.between(2, 3, 2, true), 6);
        due("nodes", x.between(0, 1, 0, false), NONE);
        due("nodes", x.between(5, 1, 4, false), NONE);
        due("empty", x.between(5, 1, 1, false), -2);
        due("empty", x.between(1, 5, 1, true), -2);
        due("drawer", x.between(6, 1, 1, false), NONE);
        due("drawer", x.between(1, -1, 1, false), NONE);
    }

    private static void promise39() {
        begin(39);
        NetMaps x = with("1:", "2:", LOOP);
        x.list(0, 0);
        due("more nodes", x.unlike(0, 1, 1, false), 1);
        due("more nodes", x.unlike(0, 1, 1, true), 0);
        due("a loop", x.unlike(0, 2, 1, false), 1);
        due("a loop", x.unlike(0, 2, 1, true), 1);
        due("a loop", x.unlike(0, 2, 2, false), 15);
        due("a loop", x.unlike(0, 2, 3, false), 511);
        due("the same", x.unlike(1, 1, 3, false), 0);
        due("the same", x.unlike(1, 1, 3, true), -4);
        due("nodes", x.unlike(0, 1, 0, false), NONE);
        due("nodes", x.unlike(5, 1, 4, false), NONE);
        due("empty", x.unlike(5, 1, 1, false), -2);
        due("empty", x.unlike(1, 5, 1, true), -2);
        due("drawer", x.unlike(6, 1, 1, false), NONE);
        due("drawer", x.unlike(1, -1, 1, false), NONE);
    }

    private static void promise40() {
        begin(40);
        NetMaps x = with("2:0>0 0>1 1>0", "2:0>1", "7:");
        due("ways", x.ways(0, 0, 0, 5), 8);
        due("ways", x.ways(0, 0, 1, 5), 5);
        due("ways", x.ways(0, 1, 1, 5), 3);
        due("ways", x.ways(0, 1, 1, 6), 5);
        due("no lines", x.ways(0, 1, 1, 0), 1);
        due("no lines", x.ways(0, 0, 1, 0), 0);
        due("one line", x.ways(1, 0, 1, 1), 1);
        due("not back", x.ways(1, 1, 0, 1), 0);
        due("too far", x.ways(1, 0, 1, 2), 0);
        x.change(2, 2);
        x.change(2, 3);
        due("seven", x.ways(2, 3, 4, 9), 5764801);
        due("k", x.ways(0, 0, 0, 10), NONE);
        due("k", x.ways(0, 0, 0, -1), NONE);
        due("no such node", x.ways(0, 2, 0, 1), NONE);
        due("no such node", x.ways(0, 0, 2, 1), NONE);
        due("no such node", x.ways(0, -1, 0, 1), NONE);
        due("empty", x.ways(5, 6, 6, 0), -2);
        due("empty, no node", x.ways(5, 6, 7, 0), NONE);
        due("empty, k", x.ways(5, 0, 0, 10), NONE);
        due("drawer", x.ways(6, 0, 0, 0), NONE);
    }

    private static void promise41() {
        begin(41);
        NetMaps x = with("3:1>0 0>1 2>2 2>0", "1:");
        String text = "3:0-12>02>2";
        due("how many", x.letter(0, NONE), text.length());
        for (int k = 0; k < text.length(); k++) {
            due("letter", x.letter(0, k), text.charAt(k));
        }
        due("not so many", x.letter(0, text.length()), -3);
        due("not so many", x.letter(0, Integer.MAX_VALUE), -3);
        due("how many", x.letter(1, NONE), 2);
        x.put(2, 7);
        x.change(2, 2);
        x.change(2, 3);
        due("how many", x.letter(2, NONE), 86);
        due("the last", x.letter(2, 85), '6');
        due("below NONE", x.letter(0, -2), NONE);
        due("empty", x.letter(5, NONE), -2);
        due("empty", x.letter(5, 0), -2);
        due("empty, below NONE", x.letter(5, -2), NONE);
        due("drawer", x.letter(6, 0), NONE);
        due("drawer", x.letter(-1, NONE), NONE);
    }

    // ---- kept

    private static void promise42() {
        begin(42);
        NetMaps x = new NetMaps();
        x.put(0, 1);
        x.put(5, 1);
        due("drawers", x.count(0), 33);
        feed(x, "", 0);
        due("tape", x.count(1), 20);
        x.keep();
        due("states", x.count(2), 1);
        for (int a = 0; a < 7; a++) {
            x.list(a, a + 1);
            x.weigh(a, a + 2);
        }
        for (int a = 0; a < 7; a++) {
            due("list", x.count(10 + a), a + 1);
            due("weight", x.count(20 + a), a + 2);
        }
        for (int what : new int[] {-1, 3, 9, 17, 18, 19, 27, 28, Integer.MAX_VALUE, Integer.MIN_VALUE}) {
            due("count(" + what + ")", x.count(what), NONE);
        }
    }

    private static void promise43() {
        begin(43);
        NetMaps x = new NetMaps();
        for (int i = 1; i <= 10; i++) {
            due("keep", x.keep(), i);
        }
        due("ten are kept", x.keep(), NONE);
        due("count", x.count(2), 10);
        due("undo", x.undo(), 9);
        due("keep", x.keep(), 10);
    }

    private static void promise44() {
        begin(44);
        NetMaps all = new NetMaps();
        for (int i = 0; i < 7; i++) {
            all.list(i, 64 + i);
            all.weigh(i, 2 + i);
            all.put(i, i + 1);
        }
        all.keep();
        all.free();
        for (int i = 0; i < 7; i++) {
            all.weigh(i, 0);
            all.take(i);
        }
        due("all is as it was", all.undo(), 0);
        due("all is as it was", all.count(0), 63);
        for (int i = 0; i < 7; i++) {
            due("list " + i, all.count(10 + i), 64 + i);
            due("weight " + i, all.count(20 + i), 2 + i);
            due("nodes " + i, all.told(i, 0), i < 6 ? i + 1 : NONE);
        }
        NetMaps x = with(K3, PATH);
        due("nothing is kept", x.undo(), NONE);
        x.list(2, 9);
        x.weigh(3, 7);
        x.keep();
        x.line(0, 0, 0, true);
        x.take(1);
        x.put(4, 4);
        x.list(2, 8);
        x.weigh(3, 1);
        x.keep();
        x.change(0, 4);
        x.put(1, 2);
        x.free();
        feed(x, "", 0);
        due("undo", x.undo(), 1);
        dueText(x, 0, "3:0>00-10-21-2");
        due("drawers", x.count(0), 17);
        due("list", x.count(12), 8);
        due("weight", x.count(23), 1);
        due("the tape is not kept", x.count(1), 20);
        due("undo", x.undo(), 0);
        dueText(x, 0, "3:0-10-21-2");
        dueText(x, 1, "3:0>11>2");
        due("drawers", x.count(0), 3);
        due("list", x.count(12), 9);
        due("weight", x.count(23), 7);
        due("nothing is kept", x.undo(), NONE);
        dueText(x, 0, "3:0-10-21-2");
        due("what is kept does not change with what is there", x.keep(), 1);
        x.line(0, 0, 1, false);
        due("undo", x.undo(), 0);
        dueText(x, 0, "3:0-10-21-2");
    }
}

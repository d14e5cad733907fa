/** Boundary cases of promises 1 to 9: a new object, texts and drawers. */
public final class BoundsOfTextsTest extends Bounds {
    /** 80 bytes: seven nodes, all their lines but two loops. */
    private static final String LONGEST =
            "7:0-10-20-30-40-50-61-21-31-41-51-62-32-42-52-63-43-53-64-54-65-60>01>12>23>34>4";

    public static void main(String[] args) {
        promise1();
        promise2();
        promise3Lengths();
        promise3Grammar();
        promise3Faults();
        promise3Refused();
        promise4();
        promise5();
        promise6();
        promise6Refused();
        promise7();
        promise7Refused();
        promise8();
        promise9();
        end(1, 9);
    }

    private static void promise1() {
        test(1, "DRAWERS are empty");
        NetMaps x = new NetMaps();
        due("count(0)", x.count(0), 0);
        for (int d = 0; d <= 5; d++) {
            int drawer = d;
            stays(NetMaps::new, "told(" + d + ", 0)", y -> y.told(drawer, 0), EMPTY);
            stays(NetMaps::new, "row(" + d + ", 0, true)", y -> y.row(drawer, 0, true), EMPTY);
            stays(NetMaps::new, "letter(" + d + ", -1)", y -> y.letter(drawer, NONE), EMPTY);
            stays(NetMaps::new, "take(" + d + ")", y -> y.take(drawer), 0);
        }
        test(1, "LISTS are all");
        for (int a = 0; a <= 6; a++) {
            due("count(" + (10 + a) + ")", x.count(10 + a), 127);
            due("list(" + a + ", 127)", x.list(a, 127), 127);
        }
        due("free()", x.free(), 0);
        test(1, "A new object");
        due("count(1), no tape", x.count(1), 0);
        due("count(2), no states", x.count(2), 0);
        due("undo(), none kept", x.undo(), NONE);
        for (int a = 0; a <= 6; a++) {
            due("weigh(" + a + ", 0)", x.weigh(a, 0), 0);
        }
        test(1, "All memory is the networks' own");
        NetMaps one = new NetMaps();
        NetMaps other = new NetMaps();
        one.put(0, 7);
        one.list(0, 0);
        one.weigh(0, 9);
        one.keep();
        feed(one, "", 0);
        due("another object's drawers", other.count(0), 0);
        due("another object's tape", other.count(1), 0);
        due("another object's states", other.count(2), 0);
        due("another object's list", other.count(10), 127);
        due("another object's weight", other.count(20), 0);
        test(1, "An object is used for at most 512 calls");
        NetMaps long512 = with("7:0>1");
        for (int i = 2; i < 510; i += 2) {
            due("call " + (i + 1), long512.change(0, 0), 1);
            due("call " + (i + 2), long512.keep(), i < 22 ? i / 2 : NONE);
        }
        due("call 511", long512.undo(), 9);
        due("call 512", long512.row(0, 1, false), 1);
    }

    private static void promise2() {
        test(2, "Twenty bytes come behind the tape");
        NetMaps x = new NetMaps();
        x.feed(0x373a2020, 0x20202020, 0x20202020, 0x20202020, 0x20202030);
        due("the second", x.feed(0x3e312020, 0x20202020, 0x20202020, 0x20202020, 0x20202032), 40);
        x.feed(0x20202020, 0x20202020, 0x20202020, 0x20202020, 0x2020202d);
        due("the fourth", x.feed(0x36202020, 0x20202020, 0x20202020, 0x20202020, 0x20343e34), 80);
        due("bytes 19 and 20, 39 and 59 and 60, 79 are neighbours", x.net(0, 80), 4);
        dueText(x, 0, "7:0>12-64>4");
        due("behind an empty tape", feed(x, "1:", 0), 20);
        test(2, "the highest of each int first");
        due("net", x.net(0, 2), 0);
        due("feed", x.feed(0x373a303e, 0x31313e32, 0x323e3333, 0x3e34343e, 0x35353e36), 20);
        due("net", x.net(0, 20), 6);
        dueText(x, 0, "7:0>11>22>33>44>55>6");
        // A byte of 128 and more is itself, not what its lower bits or its sign would be.
        int[] ends = {LEAST, GREATEST, -1, 0, 1 << 24, 0xb0000000, 0xb1000000, 0xa0000000};
        for (int end : ends) {
            due("feed(" + end + ", ..)", x.feed(end, end, end, end, end), 20);
            due("net of " + end, x.net(0, 20), -1000);
        }
        x.feed(0x313ab03e, 0xb0202020, 0, 0, 0);
        due("176 is no 0", x.net(0, 5), -1002);
        x.feed(0x313aa020, 0, 0, 0, 0);
        due("160 is no blank", x.net(0, 4), -1002);
        x.feed(0x31ba2020, 0, 0, 0, 0);
        due("186 is no colon", x.net(0, 4), -1001);
        test(2, "how many it has");
        NetMaps many = new NetMaps();
        for (int i = 1; i <= 8; i++) {
            due("feed " + i, many.feed(LEAST, -1, 0, 1, GREATEST), 20 * i);
            due("count(1)", many.count(1), 20 * i);
        }
        test(2, "NONE if that would be more than 160");
        World full = () -> {
            NetMaps fed = rich();
            feedAll(fed, LONGEST + " ".repeat(40));
            return fed;
        };
        due("count(1)", full.made().count(1), 160);
        stays(full, "feed", y -> y.feed(0x313a2020, 0, 0, 0, 0), NONE);
        stays(full, "feed", y -> y.feed(LEAST, LEAST, LEAST, LEAST, LEAST), NONE);
        stays(full, "feed", y -> y.feed(GREATEST, GREATEST, GREATEST, GREATEST, GREATEST), NONE);
        due("feed beyond", feed(many, "", 0), NONE);
        due("net, of the full tape", many.net(0, 80), -1000);
        due("feed of the tape that is empty then", feed(many, "", 0), 20);
        NetMaps last = new NetMaps();
        feedAll(last, "a".repeat(140));
        due("140 bytes", last.count(1), 140);
        due("20 more", feed(last, "", 0), 160);
    }

    private static void promise3Lengths() {
        test(3, "A TEXT, 1 to 80 bytes");
        NetMaps x = new NetMaps();
        due("one byte is read, though a text has two", told(x, 0, "1"), -1001);
        due("two bytes", told(x, 0, "1:"), 0);
        dueText(x, 0, "1:");
        due("length", LONGEST.length(), 80);
        due("80 bytes", told(x, 1, LONGEST), 47);
        dueText(x, 1, "7:0>00-10-20-30-40-50-61>11-21-31-41-51-62>22-32-42-52-63>33-43-53-64>44-54-65-6");
        due("80 bytes, all but two blanks", told(x, 0, "7" + " ".repeat(78) + ":"), 0);
        test(3, "the tape's first n bytes");
        feedAll(x, "3:0>1 1>2 2>0 0>0");
        due("the first five", x.net(0, 5), 1);
        feedAll(x, "2:0>1" + " ".repeat(15) + LONGEST);
        due("80 of 100", x.net(0, 80), -2020);
        feedAll(x, LONGEST + "x".repeat(80));
        due("80 of 160", x.net(0, 80), 47);
        test(3, "empty then");
        String[] texts = {"1:", "x", "8:", "3:0", "2:0>1 0>1", "  ", "1:0>0", LONGEST};
        for (String text : texts) {
            told(x, 2, text);
            due("count(1) behind " + text, x.count(1), 0);
            due("net(2, 1), nothing there", x.net(2, 1), NONE);
        }
        feedAll(x, LONGEST + LONGEST);
        x.net(2, 1);
        due("count(1) behind one byte of 160", x.count(1), 0);
        test(3, "how many LINES");
        due("no lines", told(x, 0, "7:"), 0);
        due("both ways", told(x, 0, "2:0-1"), 2);
        due("a loop told both ways", told(x, 0, "1:0-0"), 1);
        due("one of two was there", told(x, 0, "2:0>1 0-1"), 2);
        due("one of two was there", told(x, 0, "2:1>0 0-1"), 2);
        due("all of two", told(x, 0, "2:0-1 0>0 1>1"), 4);
    }

    private static void promise3Grammar() {
        test(3, "Blanks (32) are where one likes");
        NetMaps x = new NetMaps();
        due("everywhere", told(x, 0, "  3  :  0  -  1  1  >  2  "), 3);
        dueText(x, 0, "3:0-11>2");
        due("nowhere", told(x, 0, "3:0-11>2"), 3);
        for (int sign = 0; sign < 256; sign++) {
            due("sign " + sign + " ahead", told(x, 1, (char) sign + "1:") >= 0, sign == 32);
            due("sign " + sign + " behind", told(x, 1, "1:" + (char) sign) >= 0, sign == 32);
        }
        test(3, "a digit (how many NODES), a :");
        for (int sign = 0; sign < 256; sign++) {
            boolean digit = sign >= '0' && sign <= '9';
            boolean taken = sign >= '1' && sign <= '7';
            due("first sign " + sign, told(x, 1, (char) sign + ":"),
                    taken ? 0 : digit ? -2000 : sign == 32 ? -1001 : -1000);
            due("second sign " + sign, told(x, 1, "4" + (char) sign),
                    sign == ':' ? 0 : sign == 32 ? -1002 : -1001);
        }
        due("the nodes that were told last", told(x, 1, "7:"), 0);
        due("seven nodes", x.told(1, 0), 7);
        test(3, "a digit, - or >, a digit");
        for (int sign = 0; sign < 256; sign++) {
            boolean digit = sign >= '0' && sign <= '9';
            boolean node = sign >= '0' && sign <= '4';
            due("line's first sign " + sign, told(x, 1, "5:" + (char) sign + ">0"),
                    node ? 1 : digit ? -2002 : sign == 32 ? -1003 : -1002);
            due("line's second sign " + sign, told(x, 1, "5:0" + (char) sign + "1"),
                    sign == '-' ? 2 : sign == '>' ? 1 : sign == 32 ? -1004 : -1003);
            due("line's third sign " + sign, told(x, 1, "5:0>" + (char) sign),
                    node ? 1 : digit ? -2004 : sign == 32 ? -1005 : -1004);
        }
        test(3, "NODES 0 to n - 1 (1 to 7)");
        for (int n = 1; n <= 7; n++) {
            String nodes = n + ":";
            due("the last node", told(x, 1, nodes + (n - 1) + ">0"), 1);
            due("the last node", told(x, 1, nodes + "0>" + (n - 1)), 1);
            due("one behind it", told(x, 1, nodes + n + ">0"), -2002);
            due("one behind it", told(x, 1, nodes + "0>" + n), -2004);
            due("node 9", told(x, 1, nodes + "9>0"), -2002);
            due("node 9", told(x, 1, nodes + "0>9"), -2004);
        }
    }

    private static void promise3Faults() {
        test(3, "the first byte from the left that is wrong");
        String[] texts = {
            "8x", "x8", "3:3x", "3:x3", "3:0>3 x", "3:0>1 0>1 3", "3:0>1 3 0>1", "3:0>1 x 0>1", "0", "3:0>1 0>19",
        };
        int[] faults = {-2000, -1000, -2002, -1002, -2004, -3008, -2006, -1006, -2000, -3008};
        check(texts, faults);
        test(3, "(the end: at the length)");
        texts = new String[] {"3", "3 ", " ", "3:0", "3:0 ", "3:0>", "3:0-", "3:0> ", "3:0>1 2", " ".repeat(80)};
        faults = new int[] {-1001, -1002, -1001, -1003, -1004, -1004, -1004, -1005, -1007, -1080};
        check(texts, faults);
        test(3, "of one byte the least");
        texts = new String[] {":", "3:>", "3:-", "3::", "3:0>>", "3:0>:", "3:0>1 0>>", "2:0>1 0>2", "2:0>1 0>8"};
        faults = new int[] {-1000, -1002, -1002, -1002, -1004, -1004, -1008, -2008, -2008};
        check(texts, faults);
        test(3, "3 a LINE whose told ones are all there already, at its second digit");
        texts = new String[] {
            "3:0>1 0>1", "3:0-1 0>1", "3:0-1 1>0", "3:0-1 0-1", "3:0-1 1-0", "3:0>1 1>0 0-1", "3:0>0 0>0",
            "3:0>0 0-0", "3:0-0 0>0", "3:0-0 0-0", "3:0>1 0  >  1", "1:0>00>0", "3:0>1 1>0", "3:0>1 1-0", "3:1>0 1-0",
        };
        faults = new int[] {
            -3008, -3008, -3008, -3008, -3008, -3012, -3008, -3008, -3008, -3008, -3012, -3007, 2, 2, 2,
        };
        check(texts, faults);
        test(3, "a FAULT: -1000 times its number, less its place");
        String line = "7:0>1";
        texts = new String[] {
            "x", "9", line + " ".repeat(74) + "x", line + " ".repeat(74) + "7", line + " ".repeat(72) + "0>1",
            line + " ".repeat(74) + "1", line + " ".repeat(73) + "1x", LONGEST.substring(0, 79) + "5",
            LONGEST.substring(0, 77) + "6-5", LONGEST.substring(0, 77) + "5>5",
        };
        faults = new int[] {-1000, -2000, -1079, -2079, -3079, -1080, -1079, -3079, -3079, 47};
        check(texts, faults);
        test(3, "(what was there stays)");
        String[] wrong = {"x", "9", "7", "7:0>7", "7:0>1 1>2 0>1", "7:0>1 1", " "};
        for (String text : wrong) {
            World there = () -> {
                NetMaps x = rich();
                x.net(0, 1);
                return x;
            };
            for (int d = 0; d <= 5; d++) {
                int drawer = d;
                stays(there, "net(" + d + ", ..) of " + text, x -> bit(told(x, drawer, text) <= -1000), 1);
            }
        }
    }

    private static void check(String[] texts, int[] answers) {
        NetMaps x = with(PATH);
        due("how many", texts.length, answers.length);
        for (int i = 0; i < texts.length; i++) {
            due("net of '" + texts[i] + "'", told(x, 0, texts[i]), answers[i]);
            if (answers[i] < 0) {
                due("lines that were there", x.told(0, 1), 2);
            } else {
                told(x, 0, PATH);
            }
        }
    }

    private static void promise3Refused() {
        World tape100 = () -> {
            NetMaps x = rich();
            feedAll(x, LONGEST.substring(0, 60));
            return x;
        };
        World tape80 = () -> {
            NetMaps x = with(PATH);
            feedAll(x, LONGEST);
            return x;
        };
        test(3, "by the tape's first n bytes (1 to 80");
        refusesOutside(tape100, "net(0, #)", 1, 80, (x, n) -> x.net(0, n), NONE);
        due("net(0, 1)", tape80.made().net(0, 1), -1001);
        due("net(0, 80)", tape80.made().net(0, 80), 47);
        test(3, "it has not so many (the tape stays)");
        stays(NetMaps::new, "net(0, 1)", x -> x.net(0, 1), NONE);
        stays(NetMaps::new, "net(0, 80)", x -> x.net(0, 80), NONE);
        stays(Bounds::rich, "net(0, 41)", x -> x.net(0, 41), NONE);
        stays(Bounds::rich, "net(5, 80)", x -> x.net(5, 80), NONE);
        due("net(0, 40)", rich().net(0, 40), 5);
        NetMaps x = new NetMaps();
        for (int fed = 20; fed <= 60; fed += 20) {
            feed(x, "", 0);
            due("count(1)", x.count(1), fed);
            due("net(0, " + (fed + 1) + ")", x.net(0, fed + 1), NONE);
        }
        due("count(1)", x.count(1), 60);
        due("net(0, 60)", x.net(0, 60), -1000);
        test(3, "NONE: no such ones");
        refusesOutside(tape80, "net(#, 80)", 0, 5, (y, d) -> y.net(d, 80), NONE);
        due("net(5, 80)", tape80.made().net(5, 80), 47);
        test(3, "Of several reasons NONE comes first");
        World faulty = () -> {
            NetMaps y = rich();
            y.net(5, 40);
            feed(y, "x", 0);
            return y;
        };
        refusesOutside(faulty, "net(#, 1)", 0, 5, (y, d) -> y.net(d, 1), NONE);
        refusesOutside(faulty, "net(0, #)", 1, 20, (y, n) -> y.net(0, n), NONE);
        due("net(0, 1)", faulty.made().net(0, 1), -1000);
    }

    private static void promise4() {
        test(4, "A NETWORK of n NODES without LINES comes into DRAWER d: true");
        NetMaps x = fullAndBare();
        for (int n = 7; n >= 1; n--) {
            due("put(0, " + n + ")", x.put(0, n), true);
            due("nodes", x.told(0, 0), n);
            due("lines", x.told(0, 1), 0);
            x.line(0, n - 1, n - 1, true);
        }
        due("put(0, 7)", x.put(0, 7), true);
        due("lines of more nodes", x.told(0, 1), 0);
        due("rows of more nodes", x.row(0, 6, false), 0);
        due("put(5, 1)", x.put(5, 1), true);
        due("count(0)", x.count(0), 35);
        test(4, "false: no such ones");
        refusesOutside(Bounds::rich, "put(0, #)", 1, 7, (y, n) -> bit(y.put(0, n)), 0);
        refusesOutside(Bounds::rich, "put(5, #)", 1, 7, (y, n) -> bit(y.put(5, n)), 0);
        refusesOutside(Bounds::rich, "put(#, 1)", 0, 5, (y, d) -> bit(y.put(d, 1)), 0);
        refusesOutside(Bounds::rich, "put(#, 8)", 0, 5, (y, d) -> bit(y.put(d, 8)), 0);
    }

    private static void promise5() {
        test(5, "DRAWER d is empty: whether it was not (1, 0)");
        NetMaps x = new NetMaps();
        for (int d = 0; d <= 5; d++) {
            due("take(" + d + ") of an empty one", x.take(d), 0);
            x.put(d, 1 + d);
        }
        for (int d = 0; d <= 5; d++) {
            due("take(" + d + ") of a full one", x.take(d), 1);
            due("told(" + d + ", 0)", x.told(d, 0), EMPTY);
            due("the others", x.count(0), 63 >> d + 1 << d + 1);
            due("take(" + d + ") again", x.take(d), 0);
        }
        stays(Bounds::rich, "take(5), it was empty", y -> y.take(5), 0);
        test(5, "NONE: no such one");
        refusesOutside(Bounds::rich, "take(#)", 0, 5, (y, d) -> y.take(d), NONE);
    }

    private static void promise6() {
        test(6, "LINE a to b of a DRAWER is there from now on, or no more (is): true");
        NetMaps x = with(null, ONE, null, null, null, "7:");
        due("the one node", x.line(1, 0, 0, true), true);
        dueText(x, 1, "1:0>0");
        due("the one node", x.line(1, 0, 0, false), true);
        dueText(x, 1, "1:");
        due("the last node", x.line(5, 6, 0, true), true);
        due("the last node", x.line(5, 0, 6, true), true);
        due("the last node", x.line(5, 6, 6, true), true);
        dueText(x, 5, "7:0-66>6");
        due("one of two ways", x.line(5, 0, 6, false), true);
        dueText(x, 5, "7:6>06>6");
        NetMaps full = fullAndBare();
        for (int a = 0; a < 7; a++) {
            for (int b = 0; b < 7; b++) {
                due("line gone", full.line(0, a, b, false), true);
                due("line come", full.line(1, a, b, true), true);
            }
        }
        due("all gone", full.told(0, 1), 0);
        due("all come", full.told(1, 1), 49);
        test(6, "(a may be b: a LOOP)");
        NetMaps y = with(PATH);
        due("a loop", y.line(0, 2, 2, true), true);
        due("loops", y.told(0, 2), 1);
        due("a loop no more", y.line(0, 2, 2, false), true);
        due("loops", y.told(0, 2), 0);
    }

    private static void promise6Refused() {
        test(6, "false: it is empty");
        for (int a : new int[] {0, 6, 7, -1}) {
            stays(Bounds::rich, "line(5, " + a + ", 0, true)", x -> bit(x.line(5, a, 0, true)), 0);
            stays(Bounds::rich, "line(5, 0, " + a + ", false)", x -> bit(x.line(5, 0, a, false)), 0);
        }
        test(6, "no such ones");
        for (boolean is : new boolean[] {true, false}) {
            refusesOutside(Bounds::rich, "line(#, 0, 0)", 0, 5, (x, d) -> bit(x.line(d, 0, 0, is)), 0);
            refusesOutside(Bounds::rich, "line(2, #, 0)", 0, 2, (x, a) -> bit(x.line(2, a, 0, is)), 0);
            refusesOutside(Bounds::rich, "line(2, 0, #)", 0, 2, (x, b) -> bit(x.line(2, 0, b, is)), 0);
            refusesOutside(Bounds::rich, "line(3, #, 0)", 0, 6, (x, a) -> bit(x.line(3, a, 0, is)), 0);
            refusesOutside(Bounds::rich, "line(3, 0, #)", 0, 6, (x, b) -> bit(x.line(3, 0, b, is)), 0);
            refusesOutside(Bounds::rich, "line(4, #, 0)", 0, 0, (x, a) -> bit(x.line(4, a, 0, is)), 0);
            refusesOutside(Bounds::rich, "line(4, 0, #)", 0, 0, (x, b) -> bit(x.line(4, 0, b, is)), 0);
        }
        test(6, "it is so");
        stays(Bounds::rich, "line(2, 0, 1, true)", x -> bit(x.line(2, 0, 1, true)), 0);
        stays(Bounds::rich, "line(2, 1, 0, false)", x -> bit(x.line(2, 1, 0, false)), 0);
        stays(Bounds::rich, "line(4, 0, 0, true)", x -> bit(x.line(4, 0, 0, true)), 0);
        stays(Bounds::rich, "line(3, 6, 6, false)", x -> bit(x.line(3, 6, 6, false)), 0);
        due("line(2, 0, 1, false)", rich().line(2, 0, 1, false), true);
        due("line(2, 1, 0, true)", rich().line(2, 1, 0, true), true);
    }

    private static void promise7() {
        test(7, "what 0 NODES, 1 LINES, 2 LOOPS, 3 PIECES, 4 whether it is TWO-WAY (1, 0), 5 the SHORTEST");
        NetMaps x = fullAndBare();
        told(x, 2, ONE);
        told(x, 3, LOOP);
        told(x, 4, RING7);
        told(x, 5, "7:0>0 0>1 0>2 0>3 0>4 0>5 0>6");
        int[][] want = {
            {7, 49, 7, 1, 1, 1, 127, 7, 7},
            {7, 0, 0, 7, 1, 0, 0, 0, 0},
            {1, 0, 0, 1, 1, 0, 0, 0, 0},
            {1, 1, 1, 1, 1, 1, 1, 1, 1},
            {7, 7, 0, 1, 0, 7, 127, 1, 1},
            {7, 7, 1, 1, 0, 1, 1, 7, 1},
        };
        dueTold(x, want);
        test(7, "8 the most that come to one");
        NetMaps turned = with("7:0>6 1>6 2>6 3>6 4>6 5>6 6>6", "7:6>6", "7:5-6", "7:0>1 1>2 2>3 3>4 4>5 5>6");
        dueTold(turned, new int[][] {
            {7, 7, 1, 1, 0, 1, 64, 1, 7}, {7, 1, 1, 7, 1, 1, 64, 1, 1}, {7, 2, 0, 6, 1, 2, 96, 1, 1},
            {7, 6, 0, 1, 0, 0, 0, 1, 1},
        });
        test(7, "(0: none)");
        NetMaps none = with("7:0>10>20>30>40>50>61>21>31>41>51>62>32>42>52>63>43>53>64>54>65>6", "2:0>1");
        due("no ring, so many lines", none.told(0, 5), 0);
        due("on rings", none.told(0, 6), 0);
        due("no ring", none.told(1, 5), 0);
        none.line(0, 6, 0, true);
        due("one line more: a ring of two", none.told(0, 5), 2);
        due("on rings", none.told(0, 6), 127);
        test(7, "TWO-WAY: with each LINE the one back is there");
        NetMaps way = with("2:0>0", "2:0>1", "2:0-1", "7:0-6 1-2 6>5");
        due("a loop is its own way back", way.told(0, 4), 1);
        due("one way", way.told(1, 4), 0);
        due("two ways", way.told(2, 4), 1);
        due("one line alone has no way back", way.told(3, 4), 0);
        way.line(3, 5, 6, true);
        due("now it has", way.told(3, 4), 1);
        test(7, "PIECES: what hangs together by LINES, whichever way");
        NetMaps pieces = with("7:6>0 6>1 2>1 2>3 4>3 4>5", "7:6>0 6>1 2>1 2>3 4>5", "7:0>0 1>1 2>2 3>3 4>4 5>5 6>6");
        due("one", pieces.told(0, 3), 1);
        due("two", pieces.told(1, 3), 2);
        due("loops join none", pieces.told(2, 3), 7);
    }

    private static void dueTold(NetMaps x, int[][] want) {
        for (int d = 0; d < want.length; d++) {
            for (int what = 0; what <= 8; what++) {
                due("told(" + d + ", " + what + ")", x.told(d, what), want[d][what]);
            }
        }
    }

    private static void promise7Refused() {
        test(7, "-2: it is empty");
        for (int what = 0; what <= 8; what++) {
            int told = what;
            stays(Bounds::rich, "told(5, " + what + ")", x -> x.told(5, told), EMPTY);
        }
        test(7, "NONE: no such ones");
        refusesOutside(Bounds::rich, "told(0, #)", 0, 8, (x, what) -> x.told(0, what), NONE);
        refusesOutside(Bounds::rich, "told(#, 0)", 0, 5, (x, d) -> x.told(d, 0), NONE);
        asksAtEnds(Bounds::rich, "told(0, #)", 0, 8, (x, what) -> x.told(0, what), 2, 1);
        asksAtEnds(Bounds::rich, "told(#, 0)", 0, 5, (x, d) -> x.told(d, 0), 2, EMPTY);
        test(7, "Of several reasons NONE comes first, then -2");
        refusesOutside(Bounds::rich, "told(5, #)", 0, 8, (x, what) -> x.told(5, what), NONE);
    }

    private static void promise8() {
        test(8, "NODES (bits) to which LINES go from a NODE (to true), or from which they come");
        NetMaps x = fullAndBare();
        told(x, 2, "7:0>6 6>6 6>3");
        told(x, 3, LOOP);
        for (int a = 0; a < 7; a++) {
            due("full", x.row(0, a, true), 127);
            due("full", x.row(0, a, false), 127);
            due("bare", x.row(1, a, true), 0);
            due("bare", x.row(1, a, false), 0);
        }
        due("the last node", x.row(2, 6, true), 72);
        due("the last node", x.row(2, 6, false), 65);
        due("the first node", x.row(2, 0, true), 64);
        due("the first node", x.row(2, 0, false), 0);
        due("the one node", x.row(3, 0, true), 1);
        test(8, "-2: empty");
        for (boolean to : new boolean[] {true, false}) {
            asksAtEnds(Bounds::rich, "row(5, #)", 0, 6, (y, a) -> y.row(5, a, to), EMPTY);
        }
        test(8, "NONE: no such ones");
        for (boolean to : new boolean[] {true, false}) {
            refusesOutside(Bounds::rich, "row(#, 0)", 0, 5, (y, d) -> y.row(d, 0, to), NONE);
            refusesOutside(Bounds::rich, "row(2, #)", 0, 2, (y, a) -> y.row(2, a, to), NONE);
            refusesOutside(Bounds::rich, "row(3, #)", 0, 6, (y, a) -> y.row(3, a, to), NONE);
        }
        asksAtEnds(Bounds::rich, "row(2, #, true)", 0, 2, (y, a) -> y.row(2, a, true), 2, 0);
        asksAtEnds(Bounds::rich, "row(2, #, false)", 0, 2, (y, a) -> y.row(2, a, false), 0, 2);
        test(8, "whether a NODE is one of a NETWORK is asked only of one that is there (of others 0 to 6)");
        refusesOutside(Bounds::rich, "row(5, #, true)", 0, 6, (y, a) -> y.row(5, a, true), NONE);
    }

    private static void promise9() {
        test(9, "NODES (bits) to which a WAY leads from a NODE");
        NetMaps x = fullAndBare();
        told(x, 2, RING7);
        told(x, 3, LOOP);
        told(x, 4, "7:6>5 5>4 4>3 3>2 2>1 1>0");
        told(x, 5, "7:0>1 1>1 6>0");
        for (int a = 0; a < 7; a++) {
            due("full", x.reach(0, a), 127);
            due("bare: not itself without a line", x.reach(1, a), 0);
            due("ring", x.reach(2, a), 127);
            due("chain", x.reach(4, a), (1 << a) - 1);
        }
        due("a loop leads to itself", x.reach(3, 0), 1);
        due("not back to itself", x.reach(5, 0), 2);
        due("by two lines", x.reach(5, 6), 3);
        test(9, "-2: empty");
        asksAtEnds(Bounds::rich, "reach(5, #)", 0, 6, (y, a) -> y.reach(5, a), EMPTY);
        test(9, "NONE: no such ones");
        refusesOutside(Bounds::rich, "reach(#, 0)", 0, 5, (y, d) -> y.reach(d, 0), NONE);
        refusesOutside(Bounds::rich, "reach(2, #)", 0, 2, (y, a) -> y.reach(2, a), NONE);
        refusesOutside(Bounds::rich, "reach(3, #)", 0, 6, (y, a) -> y.reach(3, a), NONE);
        asksAtEnds(Bounds::rich, "reach(2, #)", 0, 2, (y, a) -> y.reach(2, a), 6, 0);
        test(9, "Of several reasons NONE comes first, then -2");
        refusesOutside(Bounds::rich, "reach(5, #)", 0, 6, (y, a) -> y.reach(5, a), NONE);
    }
}

/** Boundary cases of promises 42 to 44: what is counted, kept and undone. */
public final class BoundsOfKeptTest extends Bounds {
    public static void main(String[] args) {
        promise42();
        promise42Refused();
        promise43();
        promise44();
        promise44Order();
        promise44All();
        end(42, 44);
    }

    /** Rich, with so many states more as make ten; each of them is unlike the others. */
    private static NetMaps ten() {
        NetMaps x = rich();
        for (int i = 3; i <= 10; i++) {
            x.put(5, i % 7 + 1);
            x.list(i % 7, i);
            x.weigh(i % 7, i % 10);
            x.keep();
        }
        x.take(5);
        x.free();
        return x;
    }

    private static void promise42() {
        test(42, "0 DRAWERS that are not empty (bits)");
        NetMaps x = new NetMaps();
        for (int d = 0; d <= 5; d++) {
            due("count(0)", x.count(0), (1 << d) - 1);
            x.put(d, 1 + d);
        }
        due("count(0), all", x.count(0), 63);
        x.take(0);
        due("count(0), all but the first", x.count(0), 62);
        x.take(5);
        due("count(0), all but the first and the last", x.count(0), 30);
        test(42, "1 bytes of the tape");
        for (int fed = 0; fed <= 160; fed += 20) {
            due("count(1)", x.count(1), fed);
            due("feed", feed(x, "", 0), fed < 160 ? fed + 20 : NONE);
        }
        due("count(1), full", x.count(1), 160);
        x.net(0, 80);
        due("count(1), read", x.count(1), 0);
        test(42, "2 states that are kept");
        for (int kept = 0; kept <= 10; kept++) {
            due("count(2)", x.count(2), kept);
            x.keep();
        }
        due("count(2), full", x.count(2), 10);
        for (int kept = 9; kept >= 0; kept--) {
            x.undo();
            due("count(2)", x.count(2), kept);
        }
        x.undo();
        due("count(2), none", x.count(2), 0);
        test(42, "10 + a LIST, 20 + a WEIGHT of NODE number a");
        for (int a = 0; a <= 6; a++) {
            due("count(" + (10 + a) + ")", x.count(10 + a), 127);
            due("count(" + (20 + a) + ")", x.count(20 + a), 0);
            x.list(a, 0);
            x.weigh(a, 9);
            due("count(" + (10 + a) + ")", x.count(10 + a), 0);
            due("count(" + (20 + a) + ")", x.count(20 + a), 9);
            x.list(a, 127 - a);
            x.weigh(a, a);
        }
        for (int a = 0; a <= 6; a++) {
            due("count(" + (10 + a) + ")", x.count(10 + a), 127 - a);
            due("count(" + (20 + a) + ")", x.count(20 + a), a);
        }
    }

    private static void promise42Refused() {
        test(42, "NONE for others");
        for (int what : new int[] {LEAST, -10, -1, 3, 4, 9, 17, 18, 19, 27, 28, 30, 266, GREATEST}) {
            stays(Bounds::rich, "count(" + what + ")", x -> x.count(what), NONE);
            stays(NetMaps::new, "count(" + what + ")", x -> x.count(what), NONE);
        }
        test(42, "10 + a LIST, 20 + a WEIGHT");
        asksAtEnds(Bounds::rich, "count(#)", 0, 2, (x, what) -> x.count(what), 31, 2);
        asksAtEnds(Bounds::rich, "count(#)", 10, 16, (x, what) -> x.count(what), 127, 1);
        asksAtEnds(Bounds::rich, "count(#)", 20, 26, (x, what) -> x.count(what), 4, 9);
    }

    private static void promise43() {
        test(43, "DRAWERS, LISTS and WEIGHTS are kept: how many states are");
        NetMaps x = new NetMaps();
        for (int kept = 1; kept <= 10; kept++) {
            due("keep()", x.keep(), kept);
            due("count(2)", x.count(2), kept);
        }
        due("undo()", x.undo(), 9);
        due("keep() where one is gone", x.keep(), 10);
        test(43, "NONE: 10 are");
        stays(BoundsOfKeptTest::ten, "keep()", y -> y.keep(), NONE);
        NetMaps full = ten();
        for (int i = 0; i < 3; i++) {
            due("keep()", full.keep(), NONE);
            due("count(2)", full.count(2), 10);
        }
        // The tenth state is the one that was kept as the tenth: four nodes in drawer 5.
        full.put(5, 7);
        due("keep() of another state", full.keep(), NONE);
        due("undo()", full.undo(), 9);
        due("told(5, 0)", full.told(5, 0), 4);
        due("count(13)", full.count(13), 10);
        test(43, "DRAWERS, LISTS and WEIGHTS are kept");
        NetMaps same = rich();
        There before = new There(same);
        due("keep()", same.keep(), 3);
        before.dueSame("keeping changes nothing that is there", same);
        due("undo()", same.undo(), 2);
        before.dueSame("undoing at once, too", same);
    }

    /** What is there at one time: drawers, lists, weights. */
    private static final class There {
        private final int[] counts = new int[14];
        private final String[] texts = new String[5];

        There(NetMaps x) {
            for (int a = 0; a < 7; a++) {
                counts[a] = x.count(10 + a);
                counts[7 + a] = x.count(20 + a);
            }
            for (int d = 0; d < 5; d++) {
                texts[d] = text(x, d);
            }
        }

        void dueSame(String name, NetMaps x) {
            for (int a = 0; a < 7; a++) {
                due(name + ", list " + a, x.count(10 + a), counts[a]);
                due(name + ", weight " + a, x.count(20 + a), counts[7 + a]);
            }
            for (int d = 0; d < 5; d++) {
                dueText(x, d, texts[d]);
            }
        }
    }

    private static void promise44() {
        test(44, "NONE: there is none");
        stays(NetMaps::new, "undo()", x -> x.undo(), NONE);
        World undone = () -> {
            NetMaps x = rich();
            x.undo();
            x.undo();
            x.put(5, 2);
            return x;
        };
        stays(undone, "undo() behind the last", x -> x.undo(), NONE);
        stays(undone, "undo() twice behind the last", x -> Math.max(x.undo(), x.undo()), NONE);
        test(44, "All is as it was kept last (that state is gone): how many are left");
        NetMaps one = with(K2);
        due("keep()", one.keep(), 1);
        one.take(0);
        due("undo() of one", one.undo(), 0);
        dueText(one, 0, "2:0-1");
        due("undo(), that state is gone", one.undo(), NONE);
        dueText(one, 0, "2:0-1");
        test(44, "All is as it was kept last");
        NetMaps empty = new NetMaps();
        due("keep() of nothing", empty.keep(), 1);
        for (int d = 0; d <= 5; d++) {
            empty.put(d, 7);
            empty.list(d, 0);
            empty.weigh(d, 9);
        }
        due("undo()", empty.undo(), 0);
        due("count(0)", empty.count(0), 0);
        due("free()", empty.free(), 0);
        for (int a = 0; a <= 6; a++) {
            due("count(" + (20 + a) + ")", empty.count(20 + a), 0);
        }
        NetMaps tape = new NetMaps();
        feed(tape, "2:0>1", 0);
        tape.keep();
        feed(tape, "", 0);
        due("undo()", tape.undo(), 0);
        due("the tape is not kept: it stays", tape.count(1), 40);
        due("with what was on it", tape.net(0, 5), 1);
        tape.keep();
        feed(tape, "3:0>1", 0);
        tape.net(1, 5);
        due("undo()", tape.undo(), 0);
        due("the tape does not come back", tape.count(1), 0);
        due("the drawer is as it was", tape.told(1, 0), EMPTY);
    }

    private static void promise44Order() {
        test(44, "how many are left");
        NetMaps x = new NetMaps();
        for (int i = 0; i < 10; i++) {
            x.put(i % 6, i % 7 + 1);
            x.line(i % 6, 0, i % 7, true);
            x.list(i % 7, 100 + i);
            x.weigh(i % 7, i);
            due("keep()", x.keep(), i + 1);
        }
        for (int d = 0; d <= 5; d++) {
            x.take(d);
        }
        for (int i = 9; i >= 0; i--) {
            due("undo()", x.undo(), i);
            due("drawers", x.count(0), i < 5 ? (2 << i) - 1 : 63);
            dueText(x, i % 6, i % 7 + 1 + ":0>" + i % 7);
            due("list", x.count(10 + i % 7), 100 + i);
            due("the list told next", x.count(10 + (i + 1) % 7), i < 6 ? 127 : 94 + i);
            due("weight", x.count(20 + i % 7), i);
            due("the weight told next", x.count(20 + (i + 1) % 7), i < 6 ? 0 : i - 6);
        }
        due("undo()", x.undo(), NONE);
        test(44, "(that state is gone)");
        NetMaps y = new NetMaps();
        y.put(0, 1);
        y.keep();
        y.put(0, 2);
        y.keep();
        y.put(0, 3);
        due("undo()", y.undo(), 1);
        due("nodes", y.told(0, 0), 2);
        y.put(0, 4);
        due("keep() over the one that is gone", y.keep(), 2);
        y.put(0, 5);
        due("undo()", y.undo(), 1);
        due("nodes", y.told(0, 0), 4);
        due("undo()", y.undo(), 0);
        due("nodes", y.told(0, 0), 1);
    }

    private static void promise44All() {
        test(44, "All is as it was kept last (that state is gone)");
        for (int d = 0; d <= 5; d++) {
            NetMaps x = new NetMaps();
            x.put(d, 7);
            x.line(d, 6, 0, true);
            x.line(d, 6, 6, true);
            x.list(d, d);
            x.list(6, 64);
            x.weigh(d, d);
            x.weigh(6, 8);
            x.keep();
            x.line(d, 6, 0, false);
            x.put(d, 1);
            x.change(d, 3);
            x.free();
            x.weigh(d, 9);
            x.weigh(6, 0);
            due("undo()", x.undo(), 0);
            due("drawers", x.count(0), 1 << d);
            dueText(x, d, "7:6>06>6");
            due("list", x.count(10 + d), d);
            due("list of node 6", x.count(16), 64);
            due("weight", x.count(20 + d), d);
            due("weight of node 6", x.count(26), 8);
        }
    }
}

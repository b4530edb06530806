/** Promises 30 to 42: acts and what is seen. */
public final class ActsTest {
    private static final Check CHECK = new Check("ActsTest");
    private static final String TEXT = "alp minutes 20 huts 2 prices 9,2,3,1,1;cloud 2 to 4;eclipse 5 to 7;lamp 1 0 to 20"
        + ";shutter 0 9 to 10;bolt 19;cheese a hut 0;cheese b hut 1;cheese c hut 0;almanac 1,2,3"
        + ";turner t sees from 0 to 20 hands 1 takes 1 huts 0;call t at 1 for 1 costs 1;call t at 2 for 2 costs 2;slice 3";

    public static void main(String[] args) {
        calls();
        clouds();
        draws();
        lifts();
        seeds();
        undoes();
        undoesTwelve();
        marks();
        events();
        leds();
        sizes();
        troubles();
        CHECK.end();
    }

    private static void calls() {
        EclipseCheese x = Check.alp(TEXT);
        CHECK.fine("calls", x, x.calls(), 0);
        CHECK.refused("not made yet", x, x.call(1, false), 5);
        CHECK.fine("call 1", x, x.call(1, true));
        CHECK.fine("calls", x, x.calls(), 2);
        CHECK.refused("made already", x, x.call(1, true), 5);
        CHECK.fine("call 0", x, x.call(0, true));
        CHECK.fine("calls", x, x.calls(), 3);
        CHECK.fine("not any more", x, x.call(1, false));
        CHECK.fine("calls", x, x.calls(), 1);
        CHECK.refused("call 2", x, x.call(2, true), 1);
        CHECK.refused("call -1", x, x.call(-1, true), 1);
        CHECK.refused("call 32", x, x.call(32, false), 1);
        CHECK.same("acts", x.size(10), 3);
    }

    private static void clouds() {
        EclipseCheese x = Check.alp(TEXT);
        int[][] wrong = {{-1, 3}, {20, 21}, {5, 5}, {5, 4}, {5, 21}, {Integer.MAX_VALUE, Integer.MIN_VALUE}};
        for (int[] w : wrong) {
            CHECK.refused("cloud " + w[0] + " " + w[1], x, x.cloud(w[0], w[1]), 2);
        }
        CHECK.fine("sky 12", x, x.sky(12), 1);
        CHECK.fine("cloud", x, x.cloud(12, 13));
        CHECK.fine("sky 12", x, x.sky(12), 0);
        CHECK.fine("sky 13", x, x.sky(13), 1);
        CHECK.fine("all of it", x, x.cloud(0, 20));
        CHECK.fine("the last", x, x.cloud(19, 20));
        for (int i = 3; i < 6; i++) {
            CHECK.fine("cloud " + i, x, x.cloud(i, i + 1));
        }
        CHECK.refused("a seventh", x, x.cloud(1, 2), 3);
        CHECK.refused("a seventh, a number", x, x.cloud(2, 2), 2);
        CHECK.same("clouds", x.size(3), 6);
    }

    private static void draws() {
        EclipseCheese x = Check.alp(TEXT);
        CHECK.fine("draw of SEED 0", x, x.draw(), 14);
        CHECK.same("SEED", x.size(9), 5624);
        CHECK.same("from", x.event(5, 2), 14);
        CHECK.same("to", x.event(5, 3), 19);
        CHECK.fine("seed", x, x.seed(65536));
        CHECK.fine("draw of SEED 65536", x, x.draw(), (75 * 65536 + 74) % 65537 % 20);
        for (int i = 2; i < 6; i++) {
            CHECK.same("draw", x.draw() >= 0, true);
        }
        int seed = x.size(9);
        CHECK.refused("a seventh", x, x.draw(), -1, 3);
        CHECK.same("SEED stays", x.size(9), seed);
        for (int e = 5; e < 11; e++) {
            CHECK.same("to the end at most", x.event(e, 3) <= 20 && x.event(e, 3) > x.event(e, 2), true);
        }
    }

    private static void lifts() {
        EclipseCheese x = Check.alp(TEXT);
        CHECK.refused("none came", x, x.lift(), 6);
        x.cloud(11, 12);
        x.cloud(13, 14);
        CHECK.fine("lift", x, x.lift());
        CHECK.same("the latest is gone", x.sky(13), 1);
        CHECK.same("the other stays", x.sky(11), 0);
        CHECK.fine("lift", x, x.lift());
        CHECK.refused("told ones stay", x, x.lift(), 6);
        CHECK.same("told", x.sky(2), 0);
        CHECK.same("acts", x.size(10), 4);
        CHECK.fine("undo", x, x.undo());
        CHECK.same("it is back", x.sky(11), 0);
        CHECK.fine("undo", x, x.undo());
        CHECK.same("the other, too", x.event(6, 2), 13);
    }

    private static void seeds() {
        EclipseCheese x = Check.alp(TEXT);
        CHECK.refused("seed -1", x, x.seed(-1), 2);
        CHECK.refused("seed 65537", x, x.seed(65537), 2);
        CHECK.fine("seed 65536", x, x.seed(65536));
        CHECK.same("SEED", x.size(9), 65536);
        CHECK.fine("seed 0", x, x.seed(0));
        CHECK.same("no act", x.size(10), 0);
        CHECK.refused("nothing to undo", x, x.undo(), 6);
    }

    private static void undoes() {
        EclipseCheese x = Check.alp(TEXT);
        x.seed(3);
        x.call(0, true);
        x.seed(4);
        x.cloud(1, 2);
        x.seed(5);
        x.draw();
        x.seed(6);
        x.lift();
        x.seed(7);
        int[] seeds = {6, 5, 4, 3};
        int[] clouds = {2, 1, 0, 0};
        int[] calls = {1, 1, 1, 0};
        for (int i = 0; i < 4; i++) {
            CHECK.fine("undo " + i, x, x.undo());
            CHECK.same("SEED " + i, x.size(9), seeds[i]);
            CHECK.same("clouds " + i, x.size(3), clouds[i]);
            CHECK.same("calls " + i, x.calls(), calls[i]);
            CHECK.same("acts " + i, x.size(10), 3 - i);
        }
        CHECK.refused("nothing more", x, x.undo(), 6);
        x.call(0, true);
        x.call(0, true);
        x.cloud(5, 5);
        x.lift();
        x.total();
        x.mark();
        CHECK.same("refused calls are no acts", x.size(10), 1);
    }

    private static void undoesTwelve() {
        EclipseCheese x = Check.alp(TEXT);
        for (int i = 0; i < 14; i++) {
            x.seed(100 + i);
            CHECK.fine("call " + i, x, x.call(0, i % 2 == 0));
            CHECK.same("acts " + i, x.size(10), Math.min(12, i + 1));
        }
        for (int i = 13; i >= 2; i--) {
            CHECK.fine("undo " + i, x, x.undo());
            CHECK.same("SEED " + i, x.size(9), 100 + i);
            CHECK.same("calls " + i, x.calls(), i % 2);
        }
        CHECK.refused("twelve are kept", x, x.undo(), 6);
    }

    private static void marks() {
        EclipseCheese x = Check.alp(TEXT);
        CHECK.refused("back 0", x, x.back(0), 1);
        x.seed(9);
        CHECK.fine("mark", x, x.mark(), 0);
        x.call(1, true);
        x.cloud(11, 13);
        CHECK.fine("mark", x, x.mark(), 1);
        x.seed(10);
        x.call(0, true);
        x.cloud(14, 15);
        CHECK.fine("mark", x, x.mark(), 2);
        CHECK.refused("a fourth", x, x.mark(), -1, 3);
        CHECK.same("marks", x.size(11), 3);
        CHECK.same("acts", x.size(10), 4);
        CHECK.fine("back 1", x, x.back(1));
        is(x, 2, 1, 9);
        CHECK.same("sky", x.sky(14), 1);
        CHECK.refused("nothing can be undone", x, x.undo(), 6);
        x.lift();
        x.cloud(0, 1);
        CHECK.fine("back 2", x, x.back(2));
        is(x, 3, 2, 10);
        CHECK.same("sky 11", x.sky(11), 0);
        CHECK.same("sky 14", x.sky(14), 0);
        CHECK.fine("back 0", x, x.back(0));
        is(x, 0, 0, 9);
        CHECK.same("marks stay", x.size(11), 3);
        CHECK.fine("back 1 again", x, x.back(1));
        is(x, 2, 1, 9);
        CHECK.refused("back 3", x, x.back(3), 1);
        CHECK.refused("back -1", x, x.back(-1), 1);
    }

    private static void is(EclipseCheese x, int calls, int clouds, int seed) {
        CHECK.same("calls", x.calls(), calls);
        CHECK.same("clouds", x.size(3), clouds);
        CHECK.same("SEED", x.size(9), seed);
        CHECK.same("acts", x.size(10), 0);
    }

    private static void events() {
        EclipseCheese x = Check.alp(TEXT);
        x.cloud(1, 9);
        int[][] due = {{0, -2, 2, 4}, {1, -2, 5, 7}, {2, 1, 0, 20}, {3, 0, 9, 10}, {4, -2, 19, 20}, {0, -2, 1, 9}};
        for (int e = 0; e < 6; e++) {
            for (int what = 0; what < 4; what++) {
                CHECK.fine("event " + e + " " + what, x, x.event(e, what), due[e][what]);
            }
            CHECK.refused("event what", x, x.event(e, 4), -1, 1);
            CHECK.refused("event what -1", x, x.event(e, -1), -1, 1);
        }
        CHECK.refused("event 6", x, x.event(6, 0), -1, 1);
        CHECK.refused("event -1", x, x.event(-1, 0), -1, 1);
    }

    private static void leds() {
        EclipseCheese x = Check.alp(TEXT);
        x.sky(99);
        CHECK.same("led 0", Check.seen(x, 0), 1);
        CHECK.same("led 1", Check.seen(x, 1), 2);
        CHECK.same("led 2", Check.seen(x, 2), Check.THROWN);
        CHECK.same("led -1", Check.seen(x, -1), Check.THROWN);
        CHECK.same("led most", Check.seen(x, Integer.MAX_VALUE), Check.THROWN);
        CHECK.same("no trouble of its own", x.trouble(), 2);
        x.total();
        CHECK.same("led 7", Check.seen(x, 7), Check.THROWN);
        CHECK.same("none by throwing", x.trouble(), 0);
        EclipseCheese y = Check.alp("alp minutes 10 huts 2 prices 1,1,1,1,1;cheese a hut 1;cheese b hut 0;shutter 1 9 to 10");
        CHECK.same("missed once, in the last minute", Check.seen(y, 0), 0);
        CHECK.same("no other", Check.seen(y, 1), Check.THROWN);
        CHECK.same("its change", y.change(1, 0), 9);
    }

    private static void sizes() {
        EclipseCheese x = Check.alp(TEXT);
        x.seed(77);
        x.cloud(1, 2);
        x.cloud(2, 3);
        x.call(0, true);
        x.mark();
        x.feed(0, 0, 0, 0, 0);
        x.sky(99);
        int[] due = {20, 2, 5, 2, 3, 1, 2, 1, 3, 77, 3, 1, 20};
        for (int what = 0; what <= 12; what++) {
            CHECK.same("size " + what, x.size(what), due[what]);
        }
        for (int what : new int[] {-1, 13, Integer.MIN_VALUE, Integer.MAX_VALUE}) {
            CHECK.same("size " + what, x.size(what), -1);
        }
        CHECK.same("size is not refused", x.trouble(), 2);
    }

    private static void troubles() {
        EclipseCheese x = Check.alp(TEXT);
        x.sky(99);
        CHECK.same("2", x.trouble(), 2);
        x.trouble();
        x.fault();
        x.where();
        x.size(0);
        CHECK.same("these leave it", x.trouble(), 2);
        x.peak();
        CHECK.same("0", x.trouble(), 0);
        x.undo();
        CHECK.same("6", x.trouble(), 6);
        x.calls();
        CHECK.same("0 again", x.trouble(), 0);
    }
}

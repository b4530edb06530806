/** Promises 22 to 29. */
public final class CouldBeTest {
    private static final Check CHECK = new Check("CouldBeTest");
    private static final String TURNER = " from 0 to 1 hands 1 takes 1 huts 0";

    public static void main(String[] args) {
        withouts();
        wakes();
        wakesOfSix();
        fewestTurners();
        fewestOfNone();
        allTogetherMiss();
        slices();
        nights();
        nightsDrawn();
        CHECK.end();
    }

    private static void withouts() {
        EclipseCheese x = Check.alp("alp minutes 20 huts 2 prices 10,5,3,2,4;eclipse 5 to 7;lamp 0 4 to 6;bolt 12"
            + ";cheese a hut 0;cheese b hut 1;cheese c hut 1 down;almanac 0,7,9"
            + ";turner s sees from 8 to 10 hands 2 takes 3 huts 0,1;turner bb blind from 0 to 20 hands 1 takes 1 huts 1,0"
            + ";turner d deaf from 6 to 7 hands 8 takes 1 huts 0;turner w almanac from 0 to 20 hands 8 takes 20 huts 1");
        CHECK.fine("without the eclipse", x, x.without(0), -36);
        CHECK.fine("without the lamp", x, x.without(1), 2);
        CHECK.fine("without the bolt", x, x.without(2), 2);
        CHECK.refused("without 3", x, x.without(3), -100000, 1);
        CHECK.refused("without -1", x, x.without(-1), -100000, 1);
        int total = x.total();
        x.cloud(15, 16);
        CHECK.fine("without the cloud that came", x, x.without(3), total - x.total());
        CHECK.refused("without 4", x, x.without(4), -100000, 1);
        CHECK.same("nothing moved", x.size(3), 1);
        EclipseCheese y = Check.alp("alp minutes 20 huts 1 prices 9,0,2,0,0;cheese a hut 0;shutter 0 3 to 5;cloud 8 to 9;shutter 0 4 to 6");
        CHECK.fine("total", y, y.total(), 1);
        CHECK.fine("without a shutter, that above it stays", y, y.without(0), 0);
        CHECK.fine("without the cloud", y, y.without(1), 4);
        CHECK.fine("without the other shutter", y, y.without(2), 0);
    }

    /* The hut CHANGES in 10 and 11. */
    private static String wakeText(int first, int second, int both) {
        return "alp minutes 20 huts 1 prices 0,5,0,0,0;shutter 0 10 to 11;cheese a hut 0;turner t sees" + TURNER
            + ";turner u sees" + TURNER + ";call t at 10 for 1 costs " + first + ";call t at 11 for 1 costs " + second
            + ";call t at 10 for 2 costs " + both + ";slice 10,11;slice 10;slice 11;slice 3";
    }

    private static void wakes() {
        EclipseCheese x = Check.alp(wakeText(1, 1, 2));
        CHECK.fine("the fewest of like ones", x, x.wake(), 4);
        CHECK.fine("its total", x, x.wakeTotal(), 8);
        CHECK.same("no call is made by it", x.calls(), 0);
        EclipseCheese y = Check.alp(wakeText(1, 1, 3));
        CHECK.fine("the most", y, y.wake(), 3);
        CHECK.fine("its total", y, y.wakeTotal(), 8);
        y.call(2, true);
        CHECK.fine("whatever is made", y, y.wake(), 3);
        CHECK.fine("total as it is", y, y.total(), 7);
        EclipseCheese z = Check.alp(wakeText(5, 5, 10));
        CHECK.fine("none is best", z, z.wake(), 0);
        CHECK.fine("its total", z, z.wakeTotal(), 0);
        EclipseCheese like = Check.alp(wakeText(1, 9, 99).replace("call t at 11", "call u at 10").replace("costs 9;", "costs 1;"));
        CHECK.fine("the least bits of like ones", like, like.wake(), 1);
        CHECK.fine("its total", like, like.wakeTotal(), 4);
        EclipseCheese all = Check.alp(wakeText(1, 1, 0).replace("for 2", "for 1").replace("call t at 10 for 1 costs 0", "call u at 0 for 1 costs 0"));
        CHECK.fine("a call that costs nothing and brings nothing", all, all.wake(), 3);
        EclipseCheese none = Check.alp("alp minutes 10 huts 1 prices 7,0,0,0,0;cheese a hut 0");
        CHECK.fine("no calls", none, none.wake(), 0);
        CHECK.fine("total", none, none.wakeTotal(), 7);
    }

    private static void wakesOfSix() {
        StringBuilder text = new StringBuilder("alp minutes 20 huts 1 prices 0,9,0,0,0;cheese a hut 0;turner t blind" + TURNER);
        for (int i = 0; i < 6; i++) {
            text.append(";shutter 0 ").append(3 * i + 1).append(" to ").append(3 * i + 2);
            text.append(";call t at ").append(3 * i + 1).append(" for 2 costs ").append(i == 3 ? 19 : 0);
        }
        EclipseCheese x = Check.alp(text.toString());
        CHECK.fine("all six but one", x, x.wake(), 0b110111);
        CHECK.fine("its total", x, x.wakeTotal(), 90);
        EclipseCheese y = Check.alp(text.toString().replace("costs 19", "costs 17"));
        CHECK.fine("all six", y, y.wake(), 63);
        CHECK.fine("its total", y, y.wakeTotal(), 91);
    }

    private static void fewestTurners() {
        String text = "alp minutes 20 huts 1 prices 0,5,0,0,0;shutter 0 10 to 11;cheese a hut 0"
            + ";turner s sees from 10 to 11 hands 1 takes 1 huts 0;turner t sees from 11 to 12 hands 1 takes 1 huts 0"
            + ";turner u sees from 3 to 4 hands 1 takes 1 huts 0";
        EclipseCheese x = Check.alp(text + ";call u at 10 for 2 costs 1");
        CHECK.fine("two", x, x.fewest(), 2);
        CHECK.fine("they", x, x.fewestBy(), 3);
        x.call(0, true);
        CHECK.fine("one with his call", x, x.fewest(), 1);
        CHECK.fine("he", x, x.fewestBy(), 4);
        EclipseCheese like = Check.alp(text + ";turner v sees from 10 to 11 hands 1 takes 1 huts 0");
        CHECK.fine("two", like, like.fewest(), 2);
        CHECK.fine("the least bits", like, like.fewestBy(), 3);
        x.cloud(15, 16);
        CHECK.fine("all miss", x, x.fewest(), -2);
        CHECK.fine("none", x, x.fewestBy(), -2);
    }

    private static void fewestOfNone() {
        EclipseCheese x = Check.alp("alp minutes 20 huts 2 prices 0,5,0,0,0;shutter 1 10 to 11;cheese a hut 0;turner t sees" + TURNER);
        CHECK.fine("nothing is to be missed", x, x.fewest(), 0);
        CHECK.fine("no one", x, x.fewestBy(), 0);
        EclipseCheese y = Check.alp("alp minutes 20 huts 2 prices 0,5,0,0,0;shutter 1 10 to 11;cheese a hut 1");
        CHECK.fine("no turners", y, y.fewest(), -2);
        CHECK.fine("no bits", y, y.fewestBy(), -2);
    }

    /* The second turner alone misses nothing: with the first he is free too soon. */
    private static void allTogetherMiss() {
        EclipseCheese x = Check.alp("alp minutes 20 huts 1 prices 9,5,1,0,1;shutter 0 3 to 6;lamp 0 4 to 5;cheese a hut 0"
            + ";turner s blind from 3 to 4 hands 1 takes 1 huts 0;turner t sees from 0 to 20 hands 1 takes 3 huts 0");
        CHECK.same("missed", x.cheese(0, 3), 1);
        CHECK.fine("all together miss something", x, x.fewest(), -2);
        CHECK.fine("so there are none", x, x.fewestBy(), -2);
        CHECK.same("worth", x.worth(0) < 0, true);
    }

    private static void slices() {
        EclipseCheese x = Check.alp(wakeText(1, 1, 2));
        CHECK.fine("by the fewest", x, x.by(0), 4);
        CHECK.fine("by the first", x, x.by(1), 1);
        CHECK.fine("by the second", x, x.by(2), 2);
        CHECK.fine("by none such", x, x.by(3), -2);
        CHECK.fine("fits none", x, x.fits(0), 0);
        x.call(0, true);
        CHECK.fine("fits 10", x, x.fits(1), 1);
        CHECK.fine("10 is not 10, 11", x, x.fits(0), 0);
        CHECK.fine("by is of calls made alone", x, x.by(2), 2);
        x.call(1, true);
        CHECK.fine("fits 10, 11", x, x.fits(0), 1);
        CHECK.fine("10, 11 is not 10", x, x.fits(1), 0);
        for (int slice : new int[] {-1, 4, Integer.MAX_VALUE}) {
            CHECK.refused("fits " + slice, x, x.fits(slice), -1, 1);
            CHECK.refused("by " + slice, x, x.by(slice), -1, 1);
        }
        EclipseCheese y = Check.alp("alp minutes 20 huts 2 prices 0,5,0,0,0;shutter 0 10 to 11;cheese a hut 0;cheese b hut 1"
            + ";cheese c hut 0;turner t sees from 0 to 20 hands 8 takes 1 huts 0;slice 10,11");
        CHECK.fine("bits", y, y.fits(0), 5);
        CHECK.fine("by nothing", y, y.by(0), 0);
        EclipseCheese z = Check.alp("alp minutes 20 huts 1 prices 0,5,0,0,0;cloud 3 to 20;cheese a hut 0;almanac 3,5,7"
            + ";turner t almanac from 0 to 20 hands 8 takes 1 huts 0;slice 3,5,7;slice 3,5,8;slice 3;slice 3,5");
        CHECK.fine("false veins are veins", z, z.fits(0), 1);
        CHECK.fine("another minute", z, z.fits(1), 0);
        CHECK.fine("too few", z, z.fits(2), 0);
        CHECK.fine("too few again", z, z.fits(3), 0);
    }

    private static void nights() {
        EclipseCheese x = Check.alp("alp minutes 20 huts 1 prices 9,2,3,0,1;cheese a hut 0;turner t sees from 0 to 20 hands 1 takes 3 huts 0"
            + ";call t at 3 for 1 costs 4");
        CHECK.fine("one", x, x.nights(0, 1, 0), 9);
        CHECK.fine("eight", x, x.nights(65536, 8, 0), 72);
        x.cloud(3, 4);
        CHECK.same("a cloud came", x.total(), 8);
        CHECK.fine("without it", x, x.nights(0, 2, 0), 18);
        x.call(0, true);
        CHECK.fine("with the calls", x, x.nights(0, 2, 0), 10);
        x.seed(7);
        x.nights(1, 8, 6);
        CHECK.same("SEED stays", x.size(9), 7);
        CHECK.same("clouds stay", x.size(3), 1);
        CHECK.same("it is there", x.event(0, 2), 3);
        CHECK.same("acts stay", x.size(10), 2);
        int[][] wrong = {{-1, 1, 0}, {65537, 1, 0}, {0, 0, 0}, {0, 9, 0}, {0, 1, -1}, {0, 1, 7}};
        for (int[] w : wrong) {
            CHECK.refused("nights " + w[0] + " " + w[1] + " " + w[2], x, x.nights(w[0], w[1], w[2]), -100000, 2);
        }
    }

    private static void nightsDrawn() {
        EclipseCheese x = Check.alp("alp minutes 50 huts 2 prices 9,2,3,1,1;cheese a hut 0;cheese b hut 1;bolt 30;lamp 1 20 to 40"
            + ";turner t sees from 0 to 40 hands 1 takes 3 huts 0,1;turner u blind from 10 to 50 hands 2 takes 2 huts 1,0");
        int sum = 0;
        x.seed(17);
        for (int night = 0; night < 3; night++) {
            for (int i = 0; i < 4; i++) {
                x.draw();
            }
            sum += x.total();
            for (int i = 0; i < 4; i++) {
                x.lift();
            }
        }
        CHECK.same("three nights of four clouds", x.nights(17, 3, 4), sum);
        CHECK.same("and again", x.nights(17, 3, 4), sum);
        x.seed(5);
        for (int i = 0; i < 6; i++) {
            x.draw();
        }
        CHECK.fine("a night of six", x, x.nights(5, 1, 6), x.total());
    }
}

/** Promises 12 to 21: turners and cheeses. */
public final class NightTest {
    private static final Check CHECK = new Check("NightTest");

    /* Both huts CHANGE in 5 and 7; hut 0 SEEMS to in 6 and 7, hut 1 in 5 and 7. */
    private static final String TEXT = "alp minutes 20 huts 2 prices 10,5,3,2,4;eclipse 5 to 7;lamp 0 4 to 6;bolt 12"
        + ";cheese a hut 0;cheese b hut 1;cheese c hut 1 down;almanac 0,7,9"
        + ";turner s sees from 8 to 10 hands 2 takes 3 huts 0,1"
        + ";turner bb blind from 0 to 20 hands 1 takes 1 huts 1,0"
        + ";turner d deaf from 6 to 7 hands 8 takes 1 huts 0"
        + ";turner w almanac from 0 to 20 hands 8 takes 20 huts 1"
        + ";call s at 15 for 3 costs 2;call d at 1 for 60 costs 9";

    public static void main(String[] args) {
        awakes();
        noticed();
        works();
        worths();
        turns();
        cheeses();
        veins();
        causes();
        totals();
        cracks();
        busyAndHands();
        minuteNought();
        CHECK.end();
    }

    private static void awakes() {
        EclipseCheese x = Check.alp(TEXT);
        for (int m = 0; m < 20; m++) {
            CHECK.fine("s awake " + m, x, x.awake(0, m), m == 5 || m == 6 || m == 8 || m == 9 ? 1 : 0);
            CHECK.fine("bb awake " + m, x, x.awake(1, m), 1);
            CHECK.fine("d awake " + m, x, x.awake(2, m), m == 6 ? 1 : 0);
        }
        x.call(0, true);
        x.call(1, true);
        for (int m = 10; m < 20; m++) {
            CHECK.fine("s called " + m, x, x.awake(0, m), m >= 15 && m < 18 ? 1 : 0);
            CHECK.fine("the deaf called " + m, x, x.awake(2, m), 0);
        }
        CHECK.same("minutes awake", x.work(0, 3), 7);
        CHECK.refused("turner -1", x, x.awake(-1, 0), -1, 1);
        CHECK.refused("turner 4", x, x.awake(4, -1), -1, 1);
        CHECK.refused("minute -1", x, x.awake(0, -1), -1, 2);
        CHECK.refused("minute 20", x, x.awake(0, 20), -1, 2);
    }

    private static void noticed() {
        EclipseCheese x = Check.alp(TEXT);
        for (int m = 0; m < 20; m++) {
            boolean seems0 = m == 6 || m == 7;
            boolean changes = m == 5 || m == 7;
            boolean told = m == 0 || m == 7 || m == 9;
            CHECK.fine("s hut 0 " + m, x, x.notices(0, 0, m), seems0 ? 1 : 0);
            CHECK.fine("s hut 1 " + m, x, x.notices(0, 1, m), changes ? 1 : 0);
            CHECK.fine("bb hut 0 " + m, x, x.notices(1, 0, m), changes ? 1 : 0);
            CHECK.fine("d hut 0 " + m, x, x.notices(2, 0, m), seems0 ? 1 : 0);
            CHECK.fine("d hut 1, not his " + m, x, x.notices(2, 1, m), changes ? 1 : 0);
            CHECK.fine("w hut 0, not his " + m, x, x.notices(3, 0, m), told ? 1 : 0);
        }
        CHECK.refused("turner", x, x.notices(4, 0, -1), -1, 1);
        CHECK.refused("hut", x, x.notices(0, 2, -1), -1, 1);
        CHECK.refused("hut -1", x, x.notices(0, -1, 0), -1, 1);
        CHECK.refused("minute", x, x.notices(0, 0, 20), -1, 2);
        CHECK.refused("minute -1", x, x.notices(0, 0, -1), -1, 2);
    }

    private static void works() {
        EclipseCheese x = Check.alp(TEXT);
        int[][] due = {{2, 2, 1, 4}, {2, 2, 2, 20}, {1, 0, 1, 1}, {2, 2, 1, 20}};
        for (int t = 0; t < 4; t++) {
            for (int what = 0; what < 4; what++) {
                CHECK.fine("work " + t + " " + what, x, x.work(t, what), due[t][what]);
            }
            CHECK.refused("work what", x, x.work(t, 4), -1, 1);
            CHECK.refused("work what -1", x, x.work(t, -1), -1, 1);
        }
        CHECK.refused("work turner", x, x.work(4, 0), -1, 1);
        CHECK.refused("work turner -1", x, x.work(-1, 0), -1, 1);
    }

    private static void worths() {
        EclipseCheese x = Check.alp(TEXT);
        int[] due = {16, 16, -2, 16};
        for (int t = 0; t < 4; t++) {
            CHECK.fine("worth " + t, x, x.worth(t), due[t]);
        }
        CHECK.same("total stays", x.total(), 54);
        x.call(0, true);
        CHECK.fine("calls cost as they do", x, x.worth(0), 16);
        CHECK.refused("worth 4", x, x.worth(4), -100000, 1);
        CHECK.refused("worth -1", x, x.worth(-1), -100000, 1);
    }

    private static void turns() {
        EclipseCheese x = Check.alp(TEXT);
        int[][] due = {{1, 2, 1}, {0, -2, 3}, {0, -2, 3}};
        for (int c = 0; c < 3; c++) {
            for (int m = 0; m < 20; m++) {
                int who = m >= 5 && m <= 7 ? due[c][m - 5] : -2;
                CHECK.fine("turned " + c + " " + m, x, x.turned(c, m), who);
            }
        }
        String[] up = {"1111101", "1111100", "0000011"};
        for (int m = 0; m < 7; m++) {
            for (int c = 0; c < 3; c++) {
                CHECK.fine("up " + c + " " + m, x, x.up(c, m), up[c].charAt(m) - '0');
            }
        }
        CHECK.fine("up 0 at the end", x, x.up(0, 19), 0);
        CHECK.fine("up 1 at the end", x, x.up(1, 19), 1);
        CHECK.refused("turned cheese", x, x.turned(3, -1), -1, 1);
        CHECK.refused("turned cheese -1", x, x.turned(-1, 0), -1, 1);
        CHECK.refused("turned minute", x, x.turned(0, 20), -1, 2);
        CHECK.refused("turned minute -1", x, x.turned(0, -1), -1, 2);
        CHECK.refused("up cheese", x, x.up(3, 99), -1, 1);
        CHECK.refused("up cheese -1", x, x.up(-1, 0), -1, 1);
        CHECK.refused("up minute", x, x.up(0, 20), -1, 2);
        CHECK.refused("up minute -1", x, x.up(0, -1), -1, 2);
    }

    private static void cheeses() {
        EclipseCheese x = Check.alp(TEXT);
        int[][] due = {{0, 3, 2, 0, 1, 0, 16}, {1, 2, 2, 0, 0, 1, 18}, {1, 2, 2, 0, 0, 0, 20}};
        for (int c = 0; c < 3; c++) {
            for (int what = 0; what < 7; what++) {
                CHECK.fine("cheese " + c + " " + what, x, x.cheese(c, what), due[c][what]);
            }
            CHECK.refused("cheese what", x, x.cheese(c, 7), -1, 1);
            CHECK.refused("cheese what -1", x, x.cheese(c, -1), -1, 1);
        }
        CHECK.refused("cheese 3", x, x.cheese(3, 0), -1, 1);
        CHECK.refused("cheese -1", x, x.cheese(-1, 0), -1, 1);
        x.cloud(15, 16);
        CHECK.same("missed", x.cheese(1, 3), 2);
        CHECK.same("price", x.cheese(1, 6), 12);
    }

    private static void veins() {
        EclipseCheese x = Check.alp(TEXT);
        CHECK.fine("vein 0 0", x, x.vein(0, 0), 5);
        CHECK.fine("vein 0 1", x, x.vein(0, 1), 6);
        CHECK.fine("vein 0 2", x, x.vein(0, 2), 7);
        CHECK.refused("vein 0 3", x, x.vein(0, 3), -1, 1);
        CHECK.refused("vein 0 -1", x, x.vein(0, -1), -1, 1);
        CHECK.fine("vein 1 1", x, x.vein(1, 1), 7);
        CHECK.refused("vein 3 0", x, x.vein(3, 0), -1, 1);
        CHECK.refused("vein -1 0", x, x.vein(-1, 0), -1, 1);
    }

    private static void causes() {
        EclipseCheese x = Check.alp(TEXT);
        CHECK.fine("cause 0 0", x, x.cause(0, 0), 0);
        CHECK.fine("cause 0 1", x, x.cause(0, 1), 1);
        CHECK.fine("cause 0 2", x, x.cause(0, 2), 0);
        CHECK.refused("cause 0 3", x, x.cause(0, 3), -1, 1);
        CHECK.refused("cause 0 -1", x, x.cause(0, -1), -1, 1);
        CHECK.refused("cause 3 0", x, x.cause(3, 0), -1, 1);
        EclipseCheese y = Check.alp("alp minutes 20 huts 2 prices 1,1,1,1,1;cheese a hut 0;almanac 2,3,4,6,8;bolt 3;lamp 1 6 to 9"
            + ";turner w almanac from 0 to 20 hands 1 takes 1 huts 0");
        int[] due = {-2, 0, 0, 1, -2};
        for (int i = 0; i < 5; i++) {
            CHECK.fine("cause " + i, y, y.cause(0, i), due[i]);
        }
        y.cloud(4, 8);
        CHECK.fine("the first is told", y, y.cause(0, 2), 0);
        CHECK.fine("a cloud that came", y, y.cause(0, 4), 2);
    }

    private static void totals() {
        EclipseCheese x = Check.alp(TEXT);
        CHECK.fine("total", x, x.total(), 54);
        x.call(1, true);
        CHECK.fine("a call that wakes none costs", x, x.total(), 45);
        x.call(0, true);
        CHECK.fine("both", x, x.total(), 43);
        x.call(1, false);
        CHECK.fine("one", x, x.total(), 52);
        EclipseCheese poor = Check.alp("alp minutes 10 huts 1 prices 1,0,9,0,0;cheese a hut 0;cloud 3 to 4"
            + ";turner t deaf from 0 to 1 hands 1 takes 1 huts 0;call t at 0 for 1 costs 99");
        CHECK.fine("a price is 0 at least", poor, poor.cheese(0, 6), 0);
        CHECK.fine("total 0", poor, poor.total(), 0);
        poor.call(0, true);
        CHECK.fine("a total is not", poor, poor.total(), -99);
    }

    private static void cracks() {
        EclipseCheese x = Check.alp("alp minutes 10 huts 2 prices 9,0,0,1,0;cheese a hut 0;cheese b hut 1;cheese c hut 0 down"
            + ";bolt 0;bolt 3;bolt 3;bolt 5;bolt 7;shutter 1 3 to 4;eclipse 5 to 6");
        CHECK.same("in 0, 3, 7", x.cheese(0, 5), 3);
        CHECK.same("in 0, 7", x.cheese(1, 5), 2);
        CHECK.same("down", x.cheese(2, 5), 0);
        CHECK.same("price", x.cheese(0, 6), 6);
    }

    private static void busyAndHands() {
        String head = "alp minutes 10 huts 2 prices 0,1,0,0,0;cheese a hut 1;cheese b hut 0;cheese c hut 0;shutter 0 2 to 4"
            + ";shutter 1 2 to 3;";
        EclipseCheese x = Check.alp(head + "turner t sees from 0 to 10 hands 2 takes 2 huts 0,1");
        CHECK.same("a in 2", x.turned(0, 2), 0);
        CHECK.same("b in 2", x.turned(1, 2), 0);
        CHECK.same("no third hand", x.turned(2, 2), -2);
        CHECK.same("not free in 3", x.turned(0, 3), -2);
        CHECK.same("free in 4", x.turned(1, 4), 0);
        CHECK.same("two minutes", x.work(0, 2), 2);
        EclipseCheese y = Check.alp(head + "turner t sees from 0 to 10 hands 2 takes 2 huts 1"
            + ";turner u sees from 0 to 10 hands 1 takes 1 huts 0,1;turner v sees from 2 to 10 hands 8 takes 1 huts 1,0");
        CHECK.same("his hut", y.turned(0, 2), 0);
        CHECK.same("by numbers", y.turned(1, 2), 1);
        CHECK.same("the last one's", y.turned(2, 2), 2);
        CHECK.same("the next who is free", y.turned(0, 3), 1);
        CHECK.same("u in 4", y.turned(1, 4), 1);
        CHECK.same("v in 4", y.turned(2, 4), 2);
        CHECK.same("t turns once", y.work(0, 0), 1);
    }

    private static void minuteNought() {
        EclipseCheese x = Check.alp("alp minutes 10 huts 1 prices 5,0,0,0,1;cheese a hut 0;almanac 0,1"
            + ";turner w almanac from 0 to 10 hands 1 takes 1 huts 0");
        CHECK.same("noticed", x.notices(0, 0, 0), 1);
        CHECK.same("but not turned", x.turned(0, 0), -2);
        CHECK.same("one vein", x.cheese(0, 1), 1);
        CHECK.same("in 1", x.vein(0, 0), 1);
    }
}

/** Terms II and promises 6 to 21, sentence by sentence, in the document's order. */
public final class NightSentenceTest {
    private static final Check CHECK = new Check("NightSentenceTest");
    private static final Sentences DOC = new Sentences(CHECK, "II", "6", "7", "8", "9", "10", "11", "12", "13", "14", "15", "16", "17",
        "18", "19", "20", "21");
    private static final int[] NO_MINUTES = {-1, 10, 240, Integer.MIN_VALUE, Integer.MAX_VALUE};
    private static final int[] FAR = {-1, 32, Integer.MIN_VALUE, Integer.MAX_VALUE};

    private static final String TEN = "alp minutes 10 huts 2 prices 50,1,2,3,4";
    private static final String ALWAYS = " from 0 to 10 hands 8 takes 1 huts 0";

    /*
     * Hut 0 is dark in 2 to 4, and in 7; it SEEMS dark in 2, 4, 7: it CHANGES in 2, 5, 7, 8 and SEEMS to in 2, 3, 4, 5, 7, 8.
     * Hut 1 is dark in 2 to 4 alone: it CHANGES in 2, 5.
     */
    private static final String NIGHT = TEN + ";cloud 2 to 5;lamp 0 3 to 4;shutter 0 7 to 8;bolt 9"
        + ";cheese a hut 0;cheese b hut 1;cheese c hut 0 down"
        + ";turner s sees from 3 to 9 hands 1 takes 2 huts 0;turner f blind from 0 to 6 hands 2 takes 1 huts 0,1"
        + ";turner w almanac from 0 to 10 hands 8 takes 3 huts 1;almanac 0,1,2,5;call s at 2 for 1 costs 7";

    public static void main(String[] args) {
        theSky();
        theLight();
        seems();
        changesAndSeemsTo();
        awakeInHisMinutes();
        awakeInAnEclipse();
        awakeByCalls();
        noticesByKind();
        fromMinuteOneOn();
        turnersByNumbers();
        awakeAndFree();
        cheesesByNumbers();
        inHisHuts();
        notTurnedYet();
        handsAtMost();
        freeAgain();
        veinRightOrFalse();
        missed();
        liesUpAtFirst();
        cracked();
        price();
        totalOfPrices();
        promiseSky();
        promiseLight();
        promiseChanges();
        promiseChange();
        promisePeak();
        promiseDue();
        promiseAwake();
        promiseNotices();
        promiseWork();
        promiseWorth();
        promiseTurned();
        promiseUp();
        promiseCheese();
        promiseVein();
        promiseCause();
        promiseTotal();
        DOC.end();
        CHECK.end();
    }

    /** Who turns a cheese, minute by minute. */
    private static void turns(String what, EclipseCheese x, int cheese, String due) {
        StringBuilder got = new StringBuilder();
        for (int m = 0; m < x.size(0); m++) {
            int who = x.turned(cheese, m);
            got.append(who == -2 ? "." : Integer.toString(who));
        }
        CHECK.same(what + " " + got + " for " + due, got.toString().equals(due), true);
    }

    // ---- Terms II: light

    private static void theSky() {
        DOC.says("II", "THE SKY in a minute is dark in an eclipse; else bright in a minute of lightning (bolt);"
            + " else dark in a cloud (told ones and more that came); else bright.");
        EclipseCheese x = Check.alp(TEN + ";cheese a hut 0;eclipse 1 to 5;cloud 2 to 3;cloud 4 to 7;bolt 3;bolt 4;bolt 6;bolt 8");
        CHECK.row("sky", x, x::sky, "1000001111");
        x.cloud(7, 10);
        CHECK.row("a cloud by hand", x, x::sky, "1000001010");
        x.lift();
        CHECK.same("drawn from 4", x.draw(), 74 % 10);
        CHECK.row("74 drawn, then 5,624: 4 for 5 minutes", x, x::sky, "1000001011");
        EclipseCheese bare = Check.alp(TEN + ";cheese a hut 0;lamp 0 1 to 5;shutter 1 0 to 10");
        CHECK.row("nothing else", bare, bare::sky, "1111111111");
    }

    private static void theLight() {
        DOC.says("II", "THE LIGHT in a hut: dark while it is shuttered, else as THE SKY.");
        EclipseCheese x = Check.alp(TEN + ";cheese a hut 0;shutter 0 2 to 5;cloud 4 to 7;bolt 3;bolt 6;eclipse 8 to 9");
        CHECK.row("shuttered", x, m -> x.light(0, m, false), "1100001101");
        CHECK.row("another hut", x, m -> x.light(1, m, false), "1111001101");
        EclipseCheese both = Check.alp(TEN + ";cheese a hut 0;shutter 0 2 to 6;shutter 1 3 to 8;shutter 0 4 to 9");
        CHECK.row("two shutters at hut 0", both, m -> both.light(0, m, false), "1100000001");
        CHECK.row("one at hut 1", both, m -> both.light(1, m, false), "1110000011");
    }

    private static void seems() {
        DOC.says("II", "It SEEMS bright while a lamp burns there, else it SEEMS as it is.");
        EclipseCheese x = Check.alp(TEN + ";cheese a hut 0;shutter 0 1 to 3;cloud 4 to 6;eclipse 7 to 9;lamp 0 2 to 5;lamp 0 8 to 10");
        CHECK.row("is", x, m -> x.light(0, m, false), "1001001001");
        CHECK.row("seems", x, m -> x.light(0, m, true), "1011101011");
        CHECK.row("another hut", x, m -> x.light(1, m, true), "1111001001");
        EclipseCheese both = Check.alp(TEN + ";cheese a hut 0;cloud 0 to 10;lamp 0 2 to 6;lamp 1 3 to 8;lamp 0 4 to 9");
        CHECK.row("two lamps in hut 0", both, m -> both.light(0, m, true), "0011111110");
        CHECK.row("one in hut 1", both, m -> both.light(1, m, true), "0001111100");
    }

    private static void changesAndSeemsTo() {
        DOC.says("II", "A hut CHANGES in a minute (but 0) if its LIGHT is not that of the minute ahead; it SEEMS to if what it SEEMS isn't.");
        EclipseCheese x = Check.alp(TEN + ";cheese a hut 0;cheese b hut 1;cloud 0 to 2;cloud 4 to 6;lamp 0 5 to 8;shutter 1 9 to 10"
            + ";turner s sees" + ALWAYS + ";turner f blind" + ALWAYS);
        CHECK.row("hut 0 changes", x, m -> x.notices(1, 0, m), "0010101000");
        CHECK.row("hut 0 seems to", x, m -> x.notices(0, 0, m), "0010110000");
        CHECK.row("hut 1 changes", x, m -> x.notices(1, 1, m), "0010101001");
        CHECK.row("hut 1 seems to", x, m -> x.notices(0, 1, m), "0010101001");
        CHECK.same("hut 0", x.changes(0, false), 3);
        CHECK.same("hut 0 seems", x.changes(0, true), 3);
        CHECK.same("hut 1", x.changes(1, false), 4);
    }

    // ---- Terms II: turners

    private static String sleeper(String kind) {
        return TEN + ";cheese a hut 0;eclipse 1 to 3;cloud 8 to 9;turner t " + kind + " from 4 to 6 hands 1 takes 1 huts 0"
            + ";turner u sees from 0 to 1 hands 1 takes 1 huts 0;call t at 7 for 2 costs 1;call u at 3 for 1 costs 1";
    }

    private static void awakeInHisMinutes() {
        DOC.says("II", "A turner is AWAKE in his minutes");
        EclipseCheese x = Check.alp(sleeper("deaf"));
        CHECK.row("his", x, m -> x.awake(0, m), "0000110000");
        EclipseCheese all = Check.alp(TEN + ";cheese a hut 0;turner t deaf" + ALWAYS);
        CHECK.row("all", all, m -> all.awake(0, m), "1111111111");
    }

    private static void awakeInAnEclipse() {
        DOC.says("II", "; if he isn't deaf, in an eclipse, too");
        for (String kind : new String[] {"sees", "blind", "almanac"}) {
            EclipseCheese x = Check.alp(sleeper(kind));
            CHECK.row(kind, x, m -> x.awake(0, m), "0110110000");
        }
    }

    private static void awakeByCalls() {
        DOC.says("II", ", and for so many minutes from that of a CALL on that is made for him.");
        for (String kind : new String[] {"sees", "blind", "almanac"}) {
            EclipseCheese x = Check.alp(sleeper(kind));
            x.call(1, true);
            CHECK.row("another's call", x, m -> x.awake(0, m), "0110110000");
            x.call(0, true);
            CHECK.row("his call", x, m -> x.awake(0, m), "0110110110");
            CHECK.row("the other's", x, m -> x.awake(1, m), "1111000000");
        }
        EclipseCheese deaf = Check.alp(sleeper("deaf"));
        deaf.call(0, true);
        CHECK.row("the deaf", deaf, m -> deaf.awake(0, m), "0000110000");
    }

    private static void noticesByKind() {
        DOC.says("II", "He NOTICES in a hut of his: sees, deaf: that it SEEMS to CHANGE; blind: that it CHANGES; almanac: a minute of the almanac.");
        String head = TEN + ";cheese a hut 0;cloud 3 to 6;lamp 0 5 to 8;almanac 0,4,9;turner t ";
        String[] kinds = {"sees", "deaf", "blind", "almanac"};
        String[] noticed = {"0001010000", "0001010000", "0001001000", "1000100001"};
        String[] turned = {"...0.0....", "...0.0....", "...0..0...", "....0....0"};
        for (int i = 0; i < 4; i++) {
            EclipseCheese x = Check.alp(head + kinds[i] + ALWAYS);
            CHECK.row(kinds[i], x, m -> x.notices(0, 0, m), noticed[i]);
            turns(kinds[i], x, 0, turned[i]);
            EclipseCheese other = Check.alp(head + kinds[i] + " from 0 to 10 hands 8 takes 1 huts 1");
            turns(kinds[i] + ", not his", other, 0, "..........");
        }
    }

    // ---- Terms II: THE NIGHT

    private static void fromMinuteOneOn() {
        DOC.says("II", "THE NIGHT, from minute 1 on: in each");
        EclipseCheese x = Check.alp(TEN + ";cheese a hut 0;almanac 0,1,8,9;turner t almanac" + ALWAYS);
        turns("not in 0", x, 0, ".0......00");
        EclipseCheese late = Check.alp(TEN + ";cheese a hut 0;almanac 0,1;turner t almanac from 0 to 10 hands 8 takes 20 huts 0");
        turns("free in 1", late, 0, ".0........");
    }

    private static void turnersByNumbers() {
        DOC.says("II", "the turners, by numbers:");
        String first = ";turner s sees from 0 to 6 hands 1 takes 1 huts 0";
        String second = ";turner f blind from 0 to 10 hands 1 takes 1 huts 0";
        String head = TEN + ";cheese a hut 0;cloud 4 to 6";
        turns("s, then f", Check.alp(head + first + second), 0, "....0.1...");
        turns("f, who needs no other", Check.alp(head + second + first), 0, "....0.0...");
    }

    private static void awakeAndFree() {
        DOC.says("II", "one who is AWAKE and free turns,");
        EclipseCheese x = Check.alp(TEN + ";cheese a hut 0;cloud 2 to 3;cloud 4 to 5;cloud 6 to 9"
            + ";turner s sees from 2 to 6 hands 1 takes 2 huts 0;call s at 9 for 1 costs 1");
        turns("awake in 2 to 5, busy in 3, 5", x, 0, "..0.0.....");
        x.call(0, true);
        turns("waked in 9", x, 0, "..0.0....0");
    }

    private static void cheesesByNumbers() {
        DOC.says("II", "of the cheeses (by numbers)");
        EclipseCheese x = Check.alp(TEN + ";cheese z hut 1;cheese y hut 0;cheese a hut 1;cloud 3 to 10;turner s sees from 0 to 10 hands 2 takes 1 huts 0,1");
        turns("the first", x, 0, "...0......");
        turns("the second", x, 1, "...0......");
        turns("the third", x, 2, "..........");
    }

    private static void inHisHuts() {
        DOC.says("II", "in huts in which he NOTICES something then");
        EclipseCheese x = Check.alp(TEN + ";cheese a hut 0;cheese b hut 1;shutter 0 3 to 5;shutter 1 4 to 5;turner s sees from 0 to 10 hands 8 takes 1 huts 0,1");
        turns("in hut 0", x, 0, "...0.0....");
        turns("in hut 1", x, 1, "....00....");
    }

    private static void notTurnedYet() {
        DOC.says("II", "that weren't turned yet in this minute,");
        EclipseCheese x = Check.alp(TEN + ";cheese a hut 0;cheese b hut 0;cheese c hut 0;cheese d hut 0;cloud 3 to 10"
            + ";turner s sees from 0 to 10 hands 1 takes 1 huts 0;turner t sees from 0 to 10 hands 2 takes 1 huts 0;turner u sees" + ALWAYS);
        turns("a", x, 0, "...0......");
        turns("b", x, 1, "...1......");
        turns("c", x, 2, "...1......");
        turns("d", x, 3, "...2......");
        CHECK.same("each once", x.work(0, 0) + x.work(1, 0) + x.work(2, 0), 4);
    }

    private static void handsAtMost() {
        DOC.says("II", "as many as he has hands at most;");
        String cheeses = "";
        for (char name = 'a'; name < 'i'; name++) {
            cheeses += ";cheese " + name + " hut 0";
        }
        for (int hands = 1; hands <= 8; hands++) {
            EclipseCheese x = Check.alp(TEN + cheeses + ";cloud 3 to 10;turner s sees from 0 to 10 hands " + hands + " takes 1 huts 0");
            for (int c = 0; c < 8; c++) {
                CHECK.same("hands " + hands + " cheese " + c, x.turned(c, 3), c < hands ? 0 : -2);
            }
        }
        EclipseCheese few = Check.alp(TEN + ";cheese a hut 0;cloud 3 to 10;turner s sees" + ALWAYS);
        CHECK.same("more hands than cheeses", few.work(0, 0), 1);
    }

    private static void freeAgain() {
        DOC.says("II", "if any, he is free again takes minutes later.");
        String daily = TEN + ";cheese a hut 0;almanac 1,2,3,4,5,6,7,8;turner t almanac from 0 to 10 hands 1 takes ";
        String[] due = {".00000000.", ".0.0.0.0..", ".0..0..0..", ".0...0....", ".0....0...", ".0.....0..", ".0......0.", ".0........"};
        for (int takes = 1; takes <= 8; takes++) {
            turns("takes " + takes, Check.alp(daily + takes + " huts 0"), 0, due[takes - 1]);
        }
        EclipseCheese none = Check.alp(TEN + ";cheese a hut 0;cheese b hut 1;cloud 3 to 4;shutter 1 3 to 5;turner s sees from 0 to 4 hands 1 takes 1 huts 0"
            + ";turner t sees from 0 to 10 hands 1 takes 9 huts 0");
        turns("he turned none in 3, and is free in 4", none, 0, "...01.....");
    }

    // ---- Terms II: cheeses

    private static void veinRightOrFalse() {
        DOC.says("II", "A VEIN: a minute in which a cheese is turned: RIGHT if its hut CHANGES then, else FALSE.");
        EclipseCheese x = Check.alp(TEN + ";cheese a hut 0;cheese b hut 1;shutter 0 3 to 6;almanac 2,3,5,6,9;turner t almanac from 0 to 10 hands 8 takes 1 huts 0,1");
        for (int c = 0; c < 2; c++) {
            CHECK.same("veins", x.cheese(c, 1), 5);
            CHECK.same("right", x.cheese(c, 2), c == 0 ? 2 : 0);
            CHECK.same("false", x.cheese(c, 4), c == 0 ? 3 : 5);
        }
        EclipseCheese lamp = Check.alp(TEN + ";cheese a hut 0;cloud 2 to 6;lamp 0 4 to 8;turner s sees" + ALWAYS);
        CHECK.same("seen in 2 and 4", lamp.cheese(0, 1), 2);
        CHECK.same("right in 2", lamp.cheese(0, 2), 1);
        CHECK.same("false in 4", lamp.cheese(0, 4), 1);
    }

    private static void missed() {
        DOC.says("II", "MISSED: the minutes in which its hut CHANGES and it isn't turned.");
        EclipseCheese x = Check.alp(TEN + ";cheese a hut 0;cheese b hut 1;shutter 0 3 to 6;cloud 8 to 9;lamp 0 8 to 9;lamp 1 2 to 3"
            + ";turner s sees from 0 to 6 hands 1 takes 1 huts 0");
        CHECK.same("6, 8, 9", x.cheese(0, 3), 3);
        CHECK.same("8, 9", x.cheese(1, 3), 2);
        EclipseCheese none = Check.alp(TEN + ";cheese a hut 0;cloud 0 to 10;lamp 0 4 to 6");
        CHECK.same("no change", none.cheese(0, 3), 0);
    }

    private static void liesUpAtFirst() {
        DOC.says("II", "It lies up at first (down, if told), each turn changes that.");
        EclipseCheese x = Check.alp(TEN + ";cheese a hut 0;cheese b hut 0 down;cheese c hut 1;cheese d hut 1 down;almanac 2,3,7"
            + ";turner t almanac" + ALWAYS);
        CHECK.row("up", x, m -> x.up(0, m), "1101111000");
        CHECK.row("down", x, m -> x.up(1, m), "0010000111");
        CHECK.row("up, no turn", x, m -> x.up(2, m), "1111111111");
        CHECK.row("down, no turn", x, m -> x.up(3, m), "0000000000");
    }

    private static void cracked() {
        DOC.says("II", "CRACKED: the minutes of lightning, no eclipse being then, in which its hut isn't shuttered and it lies up behind the"
            + " turns of that minute.");
        String head = TEN + ";cheese a hut 0;cheese b hut 1;cheese c hut 0 down";
        EclipseCheese x = Check.alp(head + ";bolt 0;bolt 2;bolt 4;bolt 4;bolt 6;bolt 9;eclipse 2 to 3;shutter 1 4 to 5;cloud 6 to 7");
        CHECK.same("in 0, 4, 6, 9", x.cheese(0, 5), 4);
        CHECK.same("in 0, 6, 9", x.cheese(1, 5), 3);
        CHECK.same("down", x.cheese(2, 5), 0);
        EclipseCheese turned = Check.alp(head + ";bolt 3;bolt 5;bolt 7;almanac 3,5;turner t almanac" + ALWAYS);
        CHECK.same("down behind the turn in 3, up in 5, 7", turned.cheese(0, 5), 2);
        CHECK.same("up behind the turn in 3 alone", turned.cheese(2, 5), 1);
    }

    /* The cheese has 2 RIGHT, 4 MISSED, 3 CRACKED, 1 FALSE. */
    private static EclipseCheese priced(String prices) {
        EclipseCheese x = Check.alp("alp minutes 20 huts 1 prices " + prices + ";cheese a hut 0;cloud 2 to 4;cloud 5 to 6;cloud 7 to 8"
            + ";almanac 2,4,9;turner t almanac from 0 to 20 hands 1 takes 1 huts 0;bolt 1;bolt 8;bolt 10;bolt 11;bolt 4");
        int[] due = {0, 3, 2, 4, 1, 3};
        for (int what = 0; what < 6; what++) {
            CHECK.same("cheese " + what, x.cheese(0, what), due[what]);
        }
        return x;
    }

    private static void price() {
        DOC.says("II", "PRICE: base, and vein for each RIGHT one, less mite for each MISSED, crack for each CRACKED,"
            + " false for each FALSE one; 0 at least.");
        CHECK.same("base", priced("99,0,0,0,0").cheese(0, 6), 99);
        CHECK.same("vein", priced("10,7,0,0,0").cheese(0, 6), 10 + 2 * 7);
        CHECK.same("mite", priced("99,0,7,0,0").cheese(0, 6), 99 - 4 * 7);
        CHECK.same("crack", priced("99,0,0,7,0").cheese(0, 6), 99 - 3 * 7);
        CHECK.same("false", priced("99,0,0,0,7").cheese(0, 6), 99 - 7);
        CHECK.same("all", priced("80,11,3,5,7").cheese(0, 6), 80 + 22 - 12 - 15 - 7);
        CHECK.same("0", priced("12,0,3,0,0").cheese(0, 6), 0);
        CHECK.same("1", priced("13,0,3,0,0").cheese(0, 6), 1);
        CHECK.same("0 at least", priced("11,0,3,0,0").cheese(0, 6), 0);
        CHECK.same("0 at least", priced("0,0,99,99,99").cheese(0, 6), 0);
    }

    private static void totalOfPrices() {
        DOC.says("II", "TOTAL: all PRICES less what the CALLS made cost.");
        EclipseCheese x = Check.alp("alp minutes 10 huts 2 prices 9,1,8,0,0;cheese a hut 0;cheese b hut 1;cheese c hut 0;shutter 1 3 to 6"
            + ";turner t deaf from 0 to 1 hands 1 takes 1 huts 0;call t at 1 for 1 costs 30;call t at 1 for 1 costs 4");
        CHECK.same("9, 0 (not -7), 9", x.total(), 18);
        x.call(1, true);
        CHECK.same("less 4", x.total(), 14);
        x.call(0, true);
        CHECK.same("less 34", x.total(), -16);
        x.call(1, false);
        CHECK.same("less 30", x.total(), -12);
    }

    // ---- promises 6 to 11

    private static void promiseSky() {
        DOC.says("6", "Whether THE SKY is bright in a minute: 1, 0. NONE: 1 (no ALP); 2.");
        EclipseCheese x = Check.alp(NIGHT);
        CHECK.row("sky", x, x::sky, "1100011111");
        EclipseCheese none = new EclipseCheese();
        for (int m : NO_MINUTES) {
            CHECK.refused("minute " + m, x, x.sky(m), -1, 2);
            CHECK.refused("no ALP " + m, none, none.sky(m), -1, 1);
        }
    }

    private static void promiseLight() {
        DOC.says("7", "Whether THE LIGHT in a hut is bright, or whether it SEEMS so: 1, 0. NONE: 1 (hut); 2.");
        EclipseCheese x = Check.alp(NIGHT);
        CHECK.row("hut 0", x, m -> x.light(0, m, false), "1100011011");
        CHECK.row("hut 0 seems", x, m -> x.light(0, m, true), "1101011011");
        CHECK.row("hut 1", x, m -> x.light(1, m, false), "1100011111");
        for (int m : NO_MINUTES) {
            CHECK.refused("minute " + m, x, x.light(1, m, true), -1, 2);
        }
        for (int hut : new int[] {-1, 2, 32, Integer.MAX_VALUE}) {
            CHECK.refused("hut " + hut, x, x.light(hut, 0, false), -1, 1);
            CHECK.refused("hut and minute " + hut, x, x.light(hut, 10, false), -1, 1);
        }
        EclipseCheese none = new EclipseCheese();
        CHECK.refused("no ALP", none, none.light(0, 0, false), -1, 1);
    }

    private static void promiseChanges() {
        DOC.says("8", "How often a hut CHANGES, or SEEMS to. NONE: 1.");
        EclipseCheese x = Check.alp(NIGHT);
        CHECK.fine("hut 0", x, x.changes(0, false), 4);
        CHECK.fine("hut 0 seems", x, x.changes(0, true), 6);
        CHECK.fine("hut 1", x, x.changes(1, false), 2);
        CHECK.fine("hut 1 seems", x, x.changes(1, true), 2);
        CHECK.refused("hut 2", x, x.changes(2, false), -1, 1);
        for (int far : FAR) {
            CHECK.refused("hut " + far, x, x.changes(far, true), -1, 1);
        }
        EclipseCheese none = new EclipseCheese();
        CHECK.refused("no ALP", none, none.changes(0, false), -1, 1);
    }

    private static void promiseChange() {
        DOC.says("9", "The i-th minute in which it CHANGES. NONE: 1 (hut, i).");
        EclipseCheese x = Check.alp(NIGHT);
        int[] due = {2, 5, 7, 8};
        for (int i = 0; i < 4; i++) {
            CHECK.fine("change " + i, x, x.change(0, i), due[i]);
        }
        CHECK.fine("hut 1", x, x.change(1, 1), 5);
        CHECK.refused("i 4", x, x.change(0, 4), -1, 1);
        CHECK.refused("i 2 of hut 1", x, x.change(1, 2), -1, 1);
        CHECK.refused("i -1", x, x.change(0, -1), -1, 1);
        CHECK.refused("hut 2", x, x.change(2, 0), -1, 1);
        for (int far : FAR) {
            CHECK.refused("hut " + far, x, x.change(far, 0), -1, 1);
        }
        EclipseCheese none = new EclipseCheese();
        CHECK.refused("no ALP", none, none.change(0, 0), -1, 1);
    }

    private static void promisePeak() {
        DOC.says("10", "PEAK; -2 if no hut with a cheese CHANGES. NONE: 1 (no ALP).");
        EclipseCheese x = Check.alp(NIGHT);
        CHECK.fine("3 in minute 2", x, x.peak(), 2);
        EclipseCheese none = new EclipseCheese();
        CHECK.refused("no ALP", none, none.peak(), -1, 1);
        EclipseCheese still = Check.alp(TEN + ";cheese a hut 0;shutter 1 3 to 5;lamp 0 2 to 4");
        CHECK.fine("none changes", still, still.peak(), -2);
    }

    private static void promiseDue() {
        DOC.says("11", "How many cheeses are in huts that CHANGE then. NONE: 1 (no ALP); 2.");
        EclipseCheese x = Check.alp(NIGHT);
        CHECK.row("due", x, x::due, "0030030220");
        EclipseCheese none = new EclipseCheese();
        for (int m : NO_MINUTES) {
            CHECK.refused("minute " + m, x, x.due(m), -1, 2);
            CHECK.refused("no ALP " + m, none, none.due(m), -1, 1);
        }
    }

    // ---- promises 12 to 15

    private static void promiseAwake() {
        DOC.says("12", "Whether a turner is AWAKE: 1, 0. NONE: 1; 2.");
        EclipseCheese x = Check.alp(NIGHT);
        CHECK.row("s", x, m -> x.awake(0, m), "0001111110");
        x.call(0, true);
        CHECK.row("s called", x, m -> x.awake(0, m), "0011111110");
        CHECK.row("f", x, m -> x.awake(1, m), "1111110000");
        CHECK.row("w", x, m -> x.awake(2, m), "1111111111");
        for (int m : NO_MINUTES) {
            CHECK.refused("minute " + m, x, x.awake(0, m), -1, 2);
            CHECK.refused("turner and minute " + m, x, x.awake(3, m), -1, 1);
        }
        for (int t : FAR) {
            CHECK.refused("turner " + t, x, x.awake(t, 0), -1, 1);
        }
        EclipseCheese none = new EclipseCheese();
        CHECK.refused("no ALP", none, none.awake(0, 0), -1, 1);
    }

    private static void promiseNotices() {
        DOC.says("13", "Whether he NOTICES something in a hut (AWAKE or not, his or not): 1, 0. NONE: 1 (turner, hut); 2.");
        EclipseCheese x = Check.alp(NIGHT);
        CHECK.row("s", x, m -> x.notices(0, 0, m), "0011110110");
        CHECK.row("s, not his", x, m -> x.notices(0, 1, m), "0010010000");
        CHECK.row("f", x, m -> x.notices(1, 0, m), "0010010110");
        CHECK.row("w, not his", x, m -> x.notices(2, 0, m), "1110010000");
        CHECK.row("w", x, m -> x.notices(2, 1, m), "1110010000");
        for (int m : NO_MINUTES) {
            CHECK.refused("minute " + m, x, x.notices(0, 0, m), -1, 2);
            CHECK.refused("turner and minute " + m, x, x.notices(3, 0, m), -1, 1);
            CHECK.refused("hut and minute " + m, x, x.notices(0, 2, m), -1, 1);
        }
        for (int far : FAR) {
            CHECK.refused("turner " + far, x, x.notices(far, 0, 0), -1, 1);
            CHECK.refused("hut " + far, x, x.notices(0, far, 0), -1, 1);
        }
        EclipseCheese none = new EclipseCheese();
        CHECK.refused("no ALP", none, none.notices(0, 0, 0), -1, 1);
    }

    private static void promiseWork() {
        DOC.says("14", "Of a turner in THE NIGHT 0 how many he turns, 1 of these RIGHT, 2 in how many minutes he turns any,"
            + " 3 how many minutes he is AWAKE. NONE: 1.");
        EclipseCheese x = Check.alp(NIGHT);
        x.cloud(8, 10);
        CHECK.same("another night", x.work(0, 0), 3);
        x.lift();
        int[][] due = {{3, 2, 3, 6}, {4, 4, 2, 6}, {1, 0, 1, 10}};
        for (int t = 0; t < 3; t++) {
            for (int what = 0; what < 4; what++) {
                CHECK.fine("work " + t + " " + what, x, x.work(t, what), due[t][what]);
            }
            CHECK.refused("what 4", x, x.work(t, 4), -1, 1);
            CHECK.refused("what -1", x, x.work(t, -1), -1, 1);
        }
        CHECK.refused("turner 3", x, x.work(3, 0), -1, 1);
        CHECK.refused("turner -1", x, x.work(-1, 0), -1, 1);
        EclipseCheese none = new EclipseCheese();
        CHECK.refused("no ALP", none, none.work(0, 0), -1, 1);
    }

    private static void promiseWorth() {
        DOC.says("15", "WORTH. -100,000: 1.");
        EclipseCheese x = Check.alp(NIGHT);
        int[] due = {-1, 6, -1};
        for (int t = 0; t < 3; t++) {
            CHECK.fine("worth " + t, x, x.worth(t), due[t]);
        }
        CHECK.refused("turner 3", x, x.worth(3), -100000, 1);
        CHECK.refused("turner -1", x, x.worth(-1), -100000, 1);
        EclipseCheese none = new EclipseCheese();
        CHECK.refused("no ALP", none, none.worth(0), -100000, 1);
    }

    // ---- promises 16 to 21

    private static void promiseTurned() {
        DOC.says("16", "Who turns a cheese in a minute; -2. NONE: 1; 2.");
        EclipseCheese x = Check.alp(NIGHT);
        turns("a", x, 0, "..10.0.0..");
        turns("b", x, 1, ".21..1....");
        turns("c", x, 2, ".....1....");
        CHECK.fine("no one", x, x.turned(0, 0), -2);
        CHECK.fine("f", x, x.turned(0, 2), 1);
        for (int m : NO_MINUTES) {
            CHECK.refused("minute " + m, x, x.turned(0, m), -1, 2);
            CHECK.refused("cheese and minute " + m, x, x.turned(3, m), -1, 1);
        }
        for (int c : FAR) {
            CHECK.refused("cheese " + c, x, x.turned(c, 0), -1, 1);
        }
        EclipseCheese none = new EclipseCheese();
        CHECK.refused("no ALP", none, none.turned(0, 0), -1, 1);
    }

    private static void promiseUp() {
        DOC.says("17", "Whether it lies up behind the turns of a minute: 1, 0. NONE: 1; 2.");
        EclipseCheese x = Check.alp(NIGHT);
        CHECK.row("a", x, m -> x.up(0, m), "1101100111");
        CHECK.row("b", x, m -> x.up(1, m), "1011100000");
        CHECK.row("c", x, m -> x.up(2, m), "0000011111");
        for (int m : NO_MINUTES) {
            CHECK.refused("minute " + m, x, x.up(0, m), -1, 2);
            CHECK.refused("cheese and minute " + m, x, x.up(3, m), -1, 1);
        }
        for (int c : FAR) {
            CHECK.refused("cheese " + c, x, x.up(c, 0), -1, 1);
        }
        EclipseCheese none = new EclipseCheese();
        CHECK.refused("no ALP", none, none.up(0, 0), -1, 1);
    }

    private static void promiseCheese() {
        DOC.says("18", "Of a cheese 0 its hut, 1 VEINS, 2 RIGHT, 3 MISSED, 4 FALSE, 5 CRACKED, 6 PRICE. NONE: 1.");
        EclipseCheese x = Check.alp(NIGHT);
        int[][] due = {{0, 4, 3, 1, 1, 1, 44}, {1, 3, 2, 0, 1, 0, 48}, {0, 1, 1, 3, 0, 1, 42}};
        for (int c = 0; c < 3; c++) {
            for (int what = 0; what < 7; what++) {
                CHECK.fine("cheese " + c + " " + what, x, x.cheese(c, what), due[c][what]);
            }
            CHECK.refused("what 7", x, x.cheese(c, 7), -1, 1);
            CHECK.refused("what -1", x, x.cheese(c, -1), -1, 1);
        }
        CHECK.refused("cheese 3", x, x.cheese(3, 0), -1, 1);
        CHECK.refused("cheese -1", x, x.cheese(-1, 0), -1, 1);
        EclipseCheese none = new EclipseCheese();
        CHECK.refused("no ALP", none, none.cheese(0, 0), -1, 1);
    }

    private static void promiseVein() {
        DOC.says("19", "The minute of the i-th VEIN. NONE: 1.");
        EclipseCheese x = Check.alp(NIGHT);
        int[] due = {2, 3, 5, 7};
        for (int i = 0; i < 4; i++) {
            CHECK.fine("vein " + i, x, x.vein(0, i), due[i]);
        }
        CHECK.fine("of b", x, x.vein(1, 0), 1);
        CHECK.refused("i 4", x, x.vein(0, 4), -1, 1);
        CHECK.refused("i -1", x, x.vein(0, -1), -1, 1);
        CHECK.refused("cheese 3", x, x.vein(3, 0), -1, 1);
        CHECK.refused("cheese -1", x, x.vein(-1, 0), -1, 1);
        EclipseCheese none = new EclipseCheese();
        CHECK.refused("no ALP", none, none.vein(0, 0), -1, 1);
    }

    private static void promiseCause() {
        DOC.says("20", "CAUSE of the i-th VEIN; -2 if there is none. NONE: 1.");
        EclipseCheese x = Check.alp(NIGHT);
        int[] due = {0, 1, 0, 2};
        for (int i = 0; i < 4; i++) {
            CHECK.fine("cause " + i, x, x.cause(0, i), due[i]);
        }
        CHECK.fine("no event in 1", x, x.cause(1, 0), -2);
        CHECK.refused("i 4", x, x.cause(0, 4), -1, 1);
        CHECK.refused("i -1", x, x.cause(0, -1), -1, 1);
        CHECK.refused("cheese 3", x, x.cause(3, 0), -1, 1);
        CHECK.refused("cheese -1", x, x.cause(-1, 0), -1, 1);
        EclipseCheese none = new EclipseCheese();
        CHECK.refused("no ALP", none, none.cause(0, 0), -1, 1);
    }

    private static void promiseTotal() {
        DOC.says("21", "TOTAL. -100,000: 1 (no ALP).");
        EclipseCheese x = Check.alp(NIGHT);
        CHECK.fine("total", x, x.total(), 134);
        EclipseCheese none = new EclipseCheese();
        CHECK.refused("no ALP", none, none.total(), -100000, 1);
    }
}

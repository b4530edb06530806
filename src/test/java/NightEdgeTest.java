/**
 * The edges of Terms II and of promises 6 to 21, a method for each sentence: minute 0, the first and the last minute of
 * all that lasts, hands and takes, prices at 0.
 */
public final class NightEdgeTest {
    private static final Check CHECK = new Check("NightEdgeTest");
    private static final String TEN = "alp minutes 10 huts 2 prices 50,1,2,3,4;cheese a hut 0";
    private static final String TWENTY = "alp minutes 20 huts 2 prices 50,1,2,3,4;cheese a hut 0";
    private static final String ALWAYS = " from 0 to 10 hands 8 takes 1 huts 0";

    public static void main(String[] args) {
        eclipseAheadOfBoltAheadOfCloud();
        shutterAheadOfSkyAndLampAheadOfAll();
        eventsLastFromTheFirstToAheadOfTheSecond();
        noChangeInMinuteNought();
        changesInTheFirstAndTheLastMinute();
        changeInEveryMinute();
        noChangeWhereOneDarkFollowsAnother();
        lampsHideAndFeign();
        changeIsCountedFromNought();
        peakIsTheFirstOfMost();
        dueInTheFirstAndTheLastMinute();
        awakeInHisMinutes();
        awakeInAnEclipse();
        awakeByCalls();
        awakeIsCountedOnce();
        noticesByKinds();
        noticesInMinuteNought();
        nightBeginsInMinuteOne();
        nightEndsInTheLastMinute();
        handsAtMost();
        freeAgainTakesMinutesLater();
        freeIfHeTurnsNone();
        hisHutsAlone();
        asleepHeTurnsNone();
        eachCheeseOnceInAMinute();
        turnersAndCheesesByNumbers();
        rightMissedFalse();
        hiddenChangesAreMissed();
        veinsAreCountedFromNought();
        upAtFirstAndBehindEachTurn();
        crackedInTheFirstAndTheLastMinute();
        crackedBehindTheTurnsOfThatMinute();
        notCrackedInEclipseOrShutter();
        priceIsNoughtAtLeast();
        totalMayBeBelowNought();
        worthWithoutHim();
        causeBeginsOrEndsThere();
        CHECK.end();
    }

    private static void changeMinutes(String text, int hut, int... due) {
        EclipseCheese x = Check.alp(text);
        CHECK.fine("changes of " + text, x, x.changes(hut, false), due.length);
        for (int i = 0; i < due.length; i++) {
            CHECK.fine("change " + i + " of " + text, x, x.change(hut, i), due[i]);
        }
        CHECK.refused("one more of " + text, x, x.change(hut, due.length), -1, 1);
    }

    // ---- light

    /* "dark in an eclipse; else bright in a minute of lightning (bolt); else dark in a cloud ..; else bright". */
    private static void eclipseAheadOfBoltAheadOfCloud() {
        EclipseCheese x = Check.alp(TEN + ";cloud 1 to 2;cloud 3 to 4;cloud 5 to 6;cloud 7 to 8;bolt 2;bolt 3;bolt 6;bolt 7;eclipse 4 to 8");
        CHECK.row("sky", x, x::sky, "1011000011");
    }

    /* "dark while it is shuttered, else as THE SKY. It SEEMS bright while a lamp burns there, else .. as it is". */
    private static void shutterAheadOfSkyAndLampAheadOfAll() {
        EclipseCheese x = Check.alp(TEN + ";cloud 1 to 2;cloud 3 to 4;cloud 5 to 6;cloud 7 to 8;shutter 0 2 to 4;shutter 0 6 to 8;lamp 0 4 to 8");
        CHECK.row("light", x, m -> x.light(0, m, false), "1000100011");
        CHECK.row("seems", x, m -> x.light(0, m, true), "1000111111");
        CHECK.row("another hut", x, m -> x.light(1, m, false), "1010101011");
        CHECK.row("another hut seems", x, m -> x.light(1, m, true), "1010101011");
        EclipseCheese dark = Check.alp(TEN + ";eclipse 0 to 10;lamp 1 4 to 6;bolt 5");
        CHECK.row("lamp in an eclipse", dark, m -> dark.light(1, m, true), "0000110000");
        CHECK.row("and no lamp", dark, m -> dark.light(0, m, true), "0000000000");
    }

    /* "minutes from the first to ahead of the second". */
    private static void eventsLastFromTheFirstToAheadOfTheSecond() {
        for (String sort : new String[] {";cloud ", ";eclipse ", ";shutter 0 "}) {
            EclipseCheese x = Check.alp(TEN + sort + "3 to 6");
            CHECK.row(sort, x, m -> x.light(0, m, false), "1110001111");
            EclipseCheese first = Check.alp(TEN + sort + "0 to 1");
            CHECK.row(sort, first, m -> first.light(0, m, false), "0111111111");
            EclipseCheese last = Check.alp(TEN + sort + "9 to 10");
            CHECK.row(sort, last, m -> last.light(0, m, false), "1111111110");
            EclipseCheese all = Check.alp(TEN + sort + "0 to 10");
            CHECK.row(sort, all, m -> all.light(0, m, false), "0000000000");
        }
        EclipseCheese lamps = Check.alp(TEN + ";cloud 0 to 10;lamp 0 0 to 1;lamp 0 3 to 6;lamp 0 9 to 10");
        CHECK.row("lamps", lamps, m -> lamps.light(0, m, true), "1001110001");
        EclipseCheese bolts = Check.alp(TEN + ";cloud 0 to 10;bolt 0;bolt 4;bolt 9");
        CHECK.row("bolts", bolts, bolts::sky, "1000100001");
    }

    /* "A hut CHANGES in a minute (but 0) ..; it SEEMS to if what it SEEMS isn't". */
    private static void noChangeInMinuteNought() {
        for (String event : new String[] {";cloud 0 to 10", ";eclipse 0 to 10", ";shutter 0 0 to 10", ";bolt 0", ";lamp 0 0 to 10"}) {
            EclipseCheese x = Check.alp(TEN + event + ";almanac 0");
            CHECK.fine("changes" + event, x, x.changes(0, false), 0);
            CHECK.fine("seems to" + event, x, x.changes(0, true), 0);
            CHECK.refused("no change" + event, x, x.change(0, 0), -1, 1);
            CHECK.fine("nothing due" + event, x, x.due(0), 0);
            CHECK.fine("no peak" + event, x, x.peak(), -2);
            CHECK.fine("nothing missed" + event, x, x.cheese(0, 3), 0);
        }
    }

    private static void changesInTheFirstAndTheLastMinute() {
        changeMinutes(TEN + ";cloud 0 to 1", 0, 1);
        changeMinutes(TEN + ";cloud 1 to 10", 0, 1);
        changeMinutes(TEN + ";cloud 9 to 10", 0, 9);
        changeMinutes(TEN + ";cloud 0 to 9", 0, 9);
        changeMinutes(TEN + ";cloud 8 to 9", 0, 8, 9);
        changeMinutes(TEN + ";cloud 0 to 10;bolt 9", 0, 9);
        changeMinutes(TEN + ";cloud 0 to 10;bolt 0", 0, 1);
        changeMinutes(TEN.replace("10", "240") + ";cloud 239 to 240", 0, 239);
    }

    private static void changeInEveryMinute() {
        changeMinutes(TEN + ";cloud 0 to 10;bolt 1;bolt 3;bolt 5;bolt 7;bolt 9", 0, 1, 2, 3, 4, 5, 6, 7, 8, 9);
        changeMinutes(TEN + ";cloud 0 to 10;bolt 0;bolt 2;bolt 4;bolt 6;bolt 8", 1, 1, 2, 3, 4, 5, 6, 7, 8, 9);
    }

    private static void noChangeWhereOneDarkFollowsAnother() {
        changeMinutes(TEN + ";cloud 3 to 5;cloud 5 to 7", 0, 3, 7);
        changeMinutes(TEN + ";cloud 3 to 5;eclipse 4 to 8", 0, 3, 8);
        changeMinutes(TEN + ";shutter 0 3 to 5;cloud 5 to 7", 0, 3, 7);
        changeMinutes(TEN + ";shutter 0 3 to 5;cloud 5 to 7", 1, 5, 7);
        changeMinutes(TEN + ";cloud 3 to 5;cloud 6 to 7", 0, 3, 5, 6, 7);
    }

    /* "it SEEMS to if what it SEEMS isn't". */
    private static void lampsHideAndFeign() {
        EclipseCheese hides = Check.alp(TEN + ";cloud 4 to 5;lamp 0 4 to 5");
        CHECK.fine("changes", hides, hides.changes(0, false), 2);
        CHECK.fine("seems not to", hides, hides.changes(0, true), 0);
        EclipseCheese feigns = Check.alp(TEN + ";cloud 0 to 10;lamp 0 1 to 9");
        CHECK.fine("changes not", feigns, feigns.changes(0, false), 0);
        CHECK.fine("seems to", feigns, feigns.changes(0, true), 2);
        CHECK.refused("change() is of CHANGES alone", feigns, feigns.change(0, 0), -1, 1);
        CHECK.fine("so is due()", feigns, feigns.due(1), 0);
        CHECK.fine("so is peak()", feigns, feigns.peak(), -2);
        CHECK.fine("nothing is missed", feigns, feigns.cheese(0, 3), 0);
    }

    /* "The i-th minute in which it CHANGES. NONE: 1 (hut, i)". */
    private static void changeIsCountedFromNought() {
        EclipseCheese x = Check.alp(TEN + ";cloud 3 to 7");
        CHECK.refused("-1", x, x.change(0, -1), -1, 1);
        CHECK.fine("0", x, x.change(0, 0), 3);
        CHECK.fine("1", x, x.change(0, 1), 7);
        CHECK.refused("2", x, x.change(0, 2), -1, 1);
        CHECK.refused("hut -1", x, x.change(-1, 0), -1, 1);
        CHECK.fine("hut 1", x, x.change(1, 0), 3);
        CHECK.refused("hut 2", x, x.change(2, 0), -1, 1);
        CHECK.refused("changes of hut -1", x, x.changes(-1, true), -1, 1);
        CHECK.fine("changes of hut 1", x, x.changes(1, true), 2);
        CHECK.refused("changes of hut 2", x, x.changes(2, true), -1, 1);
    }

    /* "the minute in which most cheeses are in huts that CHANGE, the first such"; "-2 if no hut with a cheese CHANGES". */
    private static void peakIsTheFirstOfMost() {
        CHECK.same("the first of like ones", Check.alp(TEN + ";cloud 1 to 9").peak(), 1);
        CHECK.same("the last minute", Check.alp(TEN + ";cloud 9 to 10").peak(), 9);
        CHECK.same("most, though later", Check.alp(TEN + ";cheese b hut 1;shutter 0 2 to 4;cloud 9 to 10").peak(), 9);
        CHECK.same("no cheese there", Check.alp(TEN + ";shutter 1 2 to 4").peak(), -2);
        CHECK.same("cheeses count, not huts", Check.alp(TEN + ";cheese b hut 0;cheese c hut 1;shutter 1 2 to 3;shutter 0 5 to 6").peak(), 5);
        EclipseCheese none = Check.alp(TEN);
        CHECK.fine("no change", none, none.peak(), -2);
    }

    private static void dueInTheFirstAndTheLastMinute() {
        EclipseCheese x = Check.alp(TEN + ";cheese b hut 1;cheese c hut 1;cloud 0 to 1;shutter 1 9 to 10");
        CHECK.row("due", x, x::due, "0300000002");
        CHECK.refused("due -1", x, x.due(-1), -1, 2);
        CHECK.refused("due 10", x, x.due(10), -1, 2);
        StringBuilder eight = new StringBuilder(TEN + ";cloud 1 to 10");
        for (int i = 1; i < 8; i++) {
            eight.append(";cheese c").append((char) ('a' + i)).append(" hut ").append(i % 2);
        }
        CHECK.same("all eight", Check.alp(eight.toString()).due(1), 8);
    }

    // ---- turners

    private static String awakeText(String kind) {
        return TWENTY + ";eclipse 12 to 15;turner t " + kind + " from 5 to 8 hands 1 takes 1 huts 0"
            + ";turner u sees from 0 to 1 hands 1 takes 1 huts 0;call t at 17 for 2 costs 1;call u at 2 for 1 costs 1";
    }

    /* "A turner is AWAKE in his minutes": from the first to ahead of the second. */
    private static void awakeInHisMinutes() {
        EclipseCheese x = Check.alp(awakeText("deaf"));
        CHECK.row("his minutes", x, m -> x.awake(0, m), "00000111000000000000");
        CHECK.same("how many", x.work(0, 3), 3);
        EclipseCheese all = Check.alp(TEN + ";turner t deaf" + ALWAYS);
        CHECK.row("all minutes", all, m -> all.awake(0, m), "1111111111");
        CHECK.same("minute 0 counts", all.work(0, 3), 10);
        EclipseCheese last = Check.alp(TEN + ";turner t deaf from 9 to 10 hands 1 takes 1 huts 0");
        CHECK.row("the last", last, m -> last.awake(0, m), "0000000001");
    }

    /* "if he isn't deaf, in an eclipse, too". */
    private static void awakeInAnEclipse() {
        for (String kind : new String[] {"sees", "blind", "almanac"}) {
            EclipseCheese x = Check.alp(awakeText(kind));
            CHECK.row(kind, x, m -> x.awake(0, m), "00000111000011100000");
            CHECK.same("how many", x.work(0, 3), 6);
        }
        EclipseCheese ends = Check.alp(TEN + ";eclipse 0 to 1;eclipse 9 to 10;turner t sees from 4 to 5 hands 1 takes 1 huts 0");
        CHECK.row("first and last", ends, m -> ends.awake(0, m), "1000100001");
        EclipseCheese dark = Check.alp(TEN + ";cloud 0 to 10;shutter 0 0 to 10;turner t sees from 4 to 5 hands 1 takes 1 huts 0");
        CHECK.row("other dark wakes none", dark, m -> dark.awake(0, m), "0000100000");
    }

    /* "for so many minutes from that of a CALL on that is made for him". */
    private static void awakeByCalls() {
        for (String kind : new String[] {"sees", "blind", "almanac"}) {
            EclipseCheese x = Check.alp(awakeText(kind));
            x.call(1, true);
            CHECK.row("another's call", x, m -> x.awake(0, m), "00000111000011100000");
            x.call(0, true);
            CHECK.row("his call", x, m -> x.awake(0, m), "00000111000011100110");
            x.call(0, false);
            CHECK.row("not any more", x, m -> x.awake(0, m), "00000111000011100000");
        }
        EclipseCheese deaf = Check.alp(awakeText("deaf"));
        deaf.call(0, true);
        CHECK.row("the deaf", deaf, m -> deaf.awake(0, m), "00000111000000000000");
        String turner = TEN + ";turner t sees from 4 to 5 hands 1 takes 1 huts 0";
        EclipseCheese first = Check.alp(turner + ";call t at 0 for 1 costs 1");
        first.call(0, true);
        CHECK.row("in minute 0", first, m -> first.awake(0, m), "1000100000");
        EclipseCheese last = Check.alp(turner + ";call t at 9 for 60 costs 1");
        last.call(0, true);
        CHECK.row("beyond the end", last, m -> last.awake(0, m), "0000100001");
        CHECK.same("how many", last.work(0, 3), 2);
    }

    private static void awakeIsCountedOnce() {
        EclipseCheese x = Check.alp(TEN + ";eclipse 3 to 6;turner t sees from 4 to 7 hands 1 takes 1 huts 0"
            + ";call t at 5 for 3 costs 1;call t at 5 for 3 costs 1");
        x.call(0, true);
        x.call(1, true);
        CHECK.row("one on another", x, m -> x.awake(0, m), "0001111100");
        CHECK.same("minutes", x.work(0, 3), 5);
    }

    private static String fourKinds() {
        return TEN + ";cloud 0 to 3;lamp 0 2 to 5;lamp 0 7 to 8;shutter 0 7 to 9;almanac 0,4,9"
            + ";turner s sees" + ALWAYS + ";turner b blind" + ALWAYS + ";turner d deaf" + ALWAYS + ";turner w almanac" + ALWAYS;
    }

    /* "sees, deaf: that it SEEMS to CHANGE; blind: that it CHANGES; almanac: a minute of the almanac". */
    private static void noticesByKinds() {
        EclipseCheese x = Check.alp(fourKinds());
        CHECK.row("sees", x, m -> x.notices(0, 0, m), "0010000011");
        CHECK.row("blind", x, m -> x.notices(1, 0, m), "0001000101");
        CHECK.row("deaf", x, m -> x.notices(2, 0, m), "0010000011");
        CHECK.row("almanac", x, m -> x.notices(3, 0, m), "1000100001");
        CHECK.row("sees, not his", x, m -> x.notices(0, 1, m), "0001000000");
        CHECK.row("almanac, not his", x, m -> x.notices(3, 1, m), "1000100001");
        EclipseCheese none = Check.alp(TEN + ";turner w almanac" + ALWAYS);
        CHECK.row("no almanac told", none, m -> none.notices(0, 0, m), "0000000000");
    }

    private static void noticesInMinuteNought() {
        EclipseCheese x = Check.alp(TEN + ";cloud 0 to 1;lamp 0 0 to 1;almanac 0;turner s sees" + ALWAYS + ";turner b blind" + ALWAYS
            + ";turner w almanac" + ALWAYS);
        CHECK.fine("sees", x, x.notices(0, 0, 0), 0);
        CHECK.fine("blind", x, x.notices(1, 0, 0), 0);
        CHECK.fine("almanac", x, x.notices(2, 0, 0), 1);
    }

    // ---- THE NIGHT

    /* "THE NIGHT, from minute 1 on". */
    private static void nightBeginsInMinuteOne() {
        EclipseCheese x = Check.alp(TEN + ";almanac 0,1;turner w almanac" + ALWAYS);
        CHECK.row("turned", x, m -> x.turned(0, m), "2022222222");
        CHECK.row("up", x, m -> x.up(0, m), "1000000000");
        CHECK.same("he turns once", x.work(0, 0), 1);
        CHECK.same("in one minute", x.work(0, 2), 1);
        CHECK.same("one vein", x.cheese(0, 1), 1);
        CHECK.same("in minute 1", x.vein(0, 0), 1);
        EclipseCheese busy = Check.alp(TEN + ";almanac 0,1;turner w almanac from 0 to 10 hands 1 takes 20 huts 0");
        CHECK.same("minute 0 makes none busy", busy.turned(0, 1), 0);
        EclipseCheese sees = Check.alp(TEN + ";cloud 0 to 1;turner s sees" + ALWAYS);
        CHECK.row("a change in 1", sees, m -> sees.turned(0, m), "2022222222");
    }

    private static void nightEndsInTheLastMinute() {
        EclipseCheese x = Check.alp(TEN + ";cloud 9 to 10;turner s sees" + ALWAYS);
        CHECK.row("turned", x, m -> x.turned(0, m), "2222222220");
        CHECK.row("up", x, m -> x.up(0, m), "1111111110");
        CHECK.same("right", x.cheese(0, 2), 1);
        EclipseCheese long240 = Check.alp(TEN.replace("10", "240") + ";almanac 239;turner w almanac from 239 to 240 hands 1 takes 1 huts 0");
        CHECK.same("in 239", long240.turned(0, 239), 0);
        CHECK.same("its vein", long240.vein(0, 0), 239);
        CHECK.refused("no vein behind the last minute", long240, long240.vein(0, 1), -1, 1);
        CHECK.refused("nor a cause", long240, long240.cause(0, 1), -1, 1);
        CHECK.same("awake in it", long240.work(0, 3), 1);
    }

    /* "as many as he has hands at most". */
    private static void handsAtMost() {
        String three = TEN + ";cheese b hut 0;cheese c hut 0;cloud 5 to 10;turner s sees from 0 to 10 takes 1 huts 0";
        int[] due = {1, 2, 3, 3, 3};
        for (int hands = 1; hands <= 5; hands++) {
            EclipseCheese x = Check.alp(three.replace(" takes", " hands " + hands + " takes"));
            CHECK.same("hands " + hands, x.work(0, 0), due[hands - 1]);
            CHECK.same("minutes of " + hands, x.work(0, 2), 1);
            for (int c = 0; c < 3; c++) {
                CHECK.same("turned " + c, x.turned(c, 5), c < hands ? 0 : -2);
                CHECK.same("missed " + c, x.cheese(c, 3), c < hands ? 0 : 1);
            }
        }
    }

    /* "he is free again takes minutes later". */
    private static void freeAgainTakesMinutesLater() {
        String every = TEN + ";cloud 0 to 10;bolt 1;bolt 3;bolt 5;bolt 7;bolt 9;turner s sees from 0 to 10 hands 1 takes ";
        String[] due = {"2000000000", "2020202020", "2022022022", "2022202220", "2022220222"};
        for (int takes = 1; takes <= 5; takes++) {
            EclipseCheese x = Check.alp(every + takes + " huts 0");
            CHECK.row("takes " + takes, x, m -> x.turned(0, m), due[takes - 1]);
        }
        EclipseCheese once = Check.alp(every + "9 huts 0");
        CHECK.row("takes 9", once, m -> once.turned(0, m), "2022222222");
        EclipseCheese twice = Check.alp(every + "8 huts 0");
        CHECK.row("takes 8", twice, m -> twice.turned(0, m), "2022222220");
    }

    /* "if any, he is free again takes minutes later". */
    private static void freeIfHeTurnsNone() {
        EclipseCheese empty = Check.alp(TEN + ";shutter 1 3 to 4;cloud 5 to 10;turner s sees from 0 to 10 hands 1 takes 20 huts 0,1");
        CHECK.same("no cheese in hut 1", empty.turned(0, 5), 0);
        CHECK.same("one minute", empty.work(0, 2), 1);
        EclipseCheese second = Check.alp(TEN + ";cloud 3 to 5;turner s sees from 0 to 10 hands 1 takes 20 huts 0"
            + ";turner t sees from 0 to 10 hands 1 takes 20 huts 0");
        CHECK.same("the first", second.turned(0, 3), 0);
        CHECK.same("none was left for the second", second.turned(0, 5), 1);
    }

    /* "in huts in which he NOTICES something": "in a hut of his". */
    private static void hisHutsAlone() {
        EclipseCheese x = Check.alp(TEN + ";cheese b hut 1;cloud 3 to 10;turner s sees from 0 to 10 hands 8 takes 1 huts 1");
        CHECK.same("not his", x.turned(0, 3), -2);
        CHECK.same("his", x.turned(1, 3), 0);
        EclipseCheese some = Check.alp(TEN + ";cheese b hut 1;shutter 1 3 to 10;turner s sees from 0 to 10 hands 8 takes 1 huts 1,0");
        CHECK.same("nothing to notice there", some.turned(0, 3), -2);
        CHECK.same("there", some.turned(1, 3), 0);
    }

    /* "one who is AWAKE and free turns". */
    private static void asleepHeTurnsNone() {
        String text = TEN + ";cloud 3 to 10;turner s sees from # hands 1 takes 1 huts 0";
        CHECK.same("ahead of his minutes", Check.alp(text.replace("#", "4 to 10")).turned(0, 3), -2);
        CHECK.same("his first", Check.alp(text.replace("#", "3 to 10")).turned(0, 3), 0);
        CHECK.same("his last", Check.alp(text.replace("#", "0 to 4")).turned(0, 3), 0);
        CHECK.same("behind them", Check.alp(text.replace("#", "0 to 3")).turned(0, 3), -2);
        EclipseCheese ends = Check.alp(TEN + ";eclipse 3 to 6;turner s sees from 0 to 1 hands 1 takes 1 huts 0");
        CHECK.same("woken as it begins", ends.turned(0, 3), 0);
        CHECK.same("asleep as it ends", ends.turned(0, 6), -2);
    }

    /* "that weren't turned yet in this minute". */
    private static void eachCheeseOnceInAMinute() {
        EclipseCheese x = Check.alp(TEN + ";cheese b hut 0;cloud 3 to 10;turner s sees from 0 to 10 hands 1 takes 1 huts 0"
            + ";turner t blind from 0 to 10 hands 8 takes 1 huts 0;turner u deaf from 0 to 10 hands 8 takes 1 huts 0");
        CHECK.same("a", x.turned(0, 3), 0);
        CHECK.same("b", x.turned(1, 3), 1);
        CHECK.same("none is left", x.work(2, 0), 0);
        CHECK.same("in no minute", x.work(2, 2), 0);
        CHECK.same("one vein", x.cheese(0, 1), 1);
        CHECK.same("down", x.up(0, 3), 0);
    }

    /* "in each the turners, by numbers"; "of the cheeses (by numbers)". */
    private static void turnersAndCheesesByNumbers() {
        EclipseCheese x = Check.alp("alp minutes 10 huts 2 prices 1,1,1,1,1;cheese z hut 1;cheese y hut 0;cheese a hut 1;cloud 3 to 10"
            + ";turner zz sees from 0 to 10 hands 2 takes 1 huts 1,0;turner aa sees from 0 to 10 hands 2 takes 1 huts 0,1");
        CHECK.same("the first cheese", x.turned(0, 3), 0);
        CHECK.same("the second", x.turned(1, 3), 0);
        CHECK.same("the third by the second turner", x.turned(2, 3), 1);
        String text = TEN + ";cloud 3 to 10";
        for (char name = 's'; name <= 'w'; name++) {
            text += ";turner " + name + " sees from " + (name == 'w' ? "3 to 4" : "9 to 10") + " hands 1 takes 1 huts 0";
        }
        CHECK.same("the last of five", Check.alp(text).turned(0, 3), 4);
    }

    // ---- cheeses

    /* "RIGHT if its hut CHANGES then, else FALSE. MISSED: the minutes in which its hut CHANGES and it isn't turned". */
    private static void rightMissedFalse() {
        EclipseCheese x = Check.alp(TEN + ";cloud 3 to 6;almanac 3,4,9;turner w almanac" + ALWAYS);
        int[] due = {0, 3, 1, 1, 2, 0, 50 + 1 - 2 - 2 * 4};
        for (int what = 0; what < due.length; what++) {
            CHECK.fine("cheese 0 " + what, x, x.cheese(0, what), due[what]);
        }
        CHECK.same("he turned", x.work(0, 0), 3);
        CHECK.same("right", x.work(0, 1), 1);
        EclipseCheese none = Check.alp(TEN);
        int[] still = {0, 0, 0, 0, 0, 0, 50};
        for (int what = 0; what < still.length; what++) {
            CHECK.fine("still " + what, none, none.cheese(0, what), still[what]);
        }
    }

    /* In the one hut nothing SEEMS to CHANGE in any minute. */
    private static void hiddenChangesAreMissed() {
        String text = "alp minutes 10 huts 1 prices 50,1,2,3,4;cheese a hut 0;lamp 0 0 to 10;cloud 3 to 6";
        EclipseCheese x = Check.alp(text + ";turner s sees" + ALWAYS);
        CHECK.same("nothing seems to change", x.changes(0, true), 0);
        CHECK.same("missed", x.cheese(0, 3), 2);
        CHECK.same("price", x.total(), 46);
        CHECK.same("who missed", Check.seen(x, 0), 0);
        CHECK.same("fewest", x.fewest(), -2);
        EclipseCheese blind = Check.alp(text + ";turner b blind" + ALWAYS);
        CHECK.row("the blind", blind, m -> blind.turned(0, m), "2220220222");
        CHECK.same("right", blind.cheese(0, 2), 2);
    }

    /* "The minute of the i-th VEIN. NONE: 1". */
    private static void veinsAreCountedFromNought() {
        EclipseCheese x = Check.alp(TEN + ";cheese b hut 1;almanac 1,4,9;turner w almanac" + ALWAYS);
        CHECK.refused("-1", x, x.vein(0, -1), -1, 1);
        CHECK.fine("0", x, x.vein(0, 0), 1);
        CHECK.fine("2", x, x.vein(0, 2), 9);
        CHECK.refused("3", x, x.vein(0, 3), -1, 1);
        CHECK.refused("none of b", x, x.vein(1, 0), -1, 1);
        CHECK.refused("cheese -1", x, x.vein(-1, 0), -1, 1);
        CHECK.refused("cheese 2", x, x.vein(2, 0), -1, 1);
        CHECK.refused("cause -1", x, x.cause(0, -1), -1, 1);
        CHECK.fine("cause 2", x, x.cause(0, 2), -2);
        CHECK.refused("cause 3", x, x.cause(0, 3), -1, 1);
        CHECK.refused("cause of b", x, x.cause(1, 0), -1, 1);
        CHECK.refused("cause of cheese -1", x, x.cause(-1, 0), -1, 1);
        CHECK.refused("cause of cheese 2", x, x.cause(2, 0), -1, 1);
    }

    /* "It lies up at first (down, if told), each turn changes that". */
    private static void upAtFirstAndBehindEachTurn() {
        EclipseCheese x = Check.alp(TEN + ";cheese b hut 0 down;almanac 1,4,9;turner w almanac" + ALWAYS);
        CHECK.row("up", x, m -> x.up(0, m), "1000111110");
        CHECK.row("down", x, m -> x.up(1, m), "0111000001");
    }

    /* "CRACKED: the minutes of lightning ..". */
    private static void crackedInTheFirstAndTheLastMinute() {
        CHECK.same("in 0", Check.alp(TEN + ";bolt 0").cheese(0, 5), 1);
        CHECK.same("in 9", Check.alp(TEN + ";bolt 9").cheese(0, 5), 1);
        CHECK.same("twice in one minute is one", Check.alp(TEN + ";bolt 9;bolt 9").cheese(0, 5), 1);
        CHECK.same("in both", Check.alp(TEN + ";bolt 9;bolt 0").cheese(0, 5), 2);
        CHECK.same("in a cloud, by a lamp", Check.alp(TEN + ";bolt 4;cloud 4 to 5;lamp 0 4 to 5").cheese(0, 5), 1);
        CHECK.same("down", Check.alp(TEN + " down;bolt 0;bolt 9").cheese(0, 5), 0);
    }

    /* "it lies up behind the turns of that minute". */
    private static void crackedBehindTheTurnsOfThatMinute() {
        String text = TEN + ";cheese b hut 0 down;almanac 5;turner w almanac" + ALWAYS + ";bolt ";
        int[][] due = {{4, 1, 0}, {5, 0, 1}, {6, 0, 1}};
        for (int[] d : due) {
            EclipseCheese x = Check.alp(text + d[0]);
            CHECK.same("bolt " + d[0] + " up", x.cheese(0, 5), d[1]);
            CHECK.same("bolt " + d[0] + " down", x.cheese(1, 5), d[2]);
        }
    }

    /* "no eclipse being then, in which its hut isn't shuttered". */
    private static void notCrackedInEclipseOrShutter() {
        for (String event : new String[] {";eclipse 3 to 6", ";shutter 0 3 to 6"}) {
            int[] bolts = {2, 3, 5, 6};
            int[] due = {1, 0, 0, 1};
            for (int i = 0; i < 4; i++) {
                CHECK.same(event + " bolt " + bolts[i], Check.alp(TEN + event + ";bolt " + bolts[i]).cheese(0, 5), due[i]);
            }
        }
        CHECK.same("another hut's shutter", Check.alp(TEN + ";shutter 1 3 to 6;bolt 4").cheese(0, 5), 1);
    }

    /* "0 at least". */
    private static void priceIsNoughtAtLeast() {
        String text = "alp minutes 10 huts 1 prices #,0,5,0,0;cheese a hut 0;cloud 5 to 10";
        CHECK.same("1", Check.alp(text.replace("#", "6")).cheese(0, 6), 1);
        CHECK.same("0", Check.alp(text.replace("#", "5")).cheese(0, 6), 0);
        CHECK.same("not below", Check.alp(text.replace("#", "4")).cheese(0, 6), 0);
        CHECK.same("far below", Check.alp(text.replace("#", "0")).total(), 0);
        CHECK.same("each by itself", Check.alp("alp minutes 10 huts 2 prices 4,0,5,0,0;cheese a hut 0;cheese b hut 1;shutter 0 5 to 10").total(), 4);
        String most = "alp minutes 10 huts 1 prices 99,99,0,0,0;cloud 0 to 10;bolt 1;bolt 3;bolt 5;bolt 7;bolt 9;turner t sees" + ALWAYS;
        for (int i = 0; i < 8; i++) {
            most += ";cheese c" + (char) ('a' + i) + " hut 0";
        }
        CHECK.same("all right", Check.alp(most).total(), 8 * (99 + 9 * 99));
    }

    /* "TOTAL: all PRICES less what the CALLS made cost". */
    private static void totalMayBeBelowNought() {
        EclipseCheese x = Check.alp("alp minutes 10 huts 1 prices 0,0,0,0,0;cheese a hut 0;turner t deaf" + ALWAYS
            + ";call t at 0 for 1 costs 99".repeat(6));
        CHECK.fine("0", x, x.total(), 0);
        for (int i = 0; i < 6; i++) {
            x.call(i, true);
            CHECK.fine("less", x, x.total(), -99 * (i + 1));
        }
        CHECK.fine("wake none", x, x.wake(), 0);
        CHECK.fine("for most", x, x.wakeTotal(), 0);
        CHECK.fine("nights", x, x.nights(0, 8, 6), -594 * 8);
        CHECK.fine("worth nothing", x, x.worth(0), 0);
    }

    /* "TOTAL less TOTAL without him (CALLS cost as they do)"; "-100,000: 1". */
    private static void worthWithoutHim() {
        EclipseCheese x = Check.alp(TEN + ";cloud 3 to 4;lamp 0 6 to 10;cloud 6 to 7;turner s sees from 0 to 5 hands 1 takes 1 huts 0"
            + ";turner f sees from 7 to 8 hands 1 takes 1 huts 0;call s at 9 for 1 costs 7");
        int total = x.total();
        CHECK.fine("worth of two right ones that else were missed", x, x.worth(0), 2 * (1 + 2));
        CHECK.fine("worth of nothing", x, x.worth(1), 0);
        x.call(0, true);
        CHECK.fine("his call costs without him, too", x, x.worth(0), 6);
        CHECK.same("total", x.total(), total - 7);
        CHECK.refused("turner -1", x, x.worth(-1), -100000, 1);
        CHECK.refused("turner 2", x, x.worth(2), -100000, 1);
        EclipseCheese harm = Check.alp(TEN + ";lamp 0 6 to 10;cloud 5 to 10;cloud 0 to 1;turner f sees from 6 to 7 hands 1 takes 1 huts 0");
        CHECK.fine("below nothing", harm, harm.worth(0), -4);
    }

    /* "the first EVENT (of any hut's) that begins in its minute or ends there (a lightning ends a minute later)". */
    private static void causeBeginsOrEndsThere() {
        String text = TWENTY + ";almanac 2,3,4,5,9,10,11,19;turner w almanac from 0 to 20 hands 1 takes 1 huts 0";
        EclipseCheese span = Check.alp(text + ";shutter 1 3 to 10");
        int[] ofSpan = {-2, 0, -2, -2, -2, 0, -2, -2};
        EclipseCheese bolt = Check.alp(text + ";bolt 3;bolt 19");
        int[] ofBolt = {-2, 0, 0, -2, -2, -2, -2, 1};
        EclipseCheese first = Check.alp(text + ";cloud 11 to 20;bolt 10;lamp 1 4 to 5;eclipse 5 to 11;cloud 0 to 2");
        int[] ofFirst = {4, -2, 2, 2, -2, 1, 0, -2};
        for (int i = 0; i < 8; i++) {
            CHECK.fine("span " + i, span, span.cause(0, i), ofSpan[i]);
            CHECK.fine("bolt " + i, bolt, bolt.cause(0, i), ofBolt[i]);
            CHECK.fine("first " + i, first, first.cause(0, i), ofFirst[i]);
        }
        for (int i = 0; i < 6; i++) {
            bolt.cloud(i == 5 ? 2 : 6, i == 5 ? 3 : 7);
        }
        CHECK.fine("the sixth cloud that came", bolt, bolt.cause(0, 0), 7);
        CHECK.fine("told ones first", bolt, bolt.cause(0, 1), 0);
        bolt.lift();
        CHECK.fine("and gone", bolt, bolt.cause(0, 0), -2);
    }
}

/** Terms III and IV, the constant and promises 22 to 42, sentence by sentence, in the document's order. */
public final class ActsSentenceTest {
    private static final Check CHECK = new Check("ActsSentenceTest");
    private static final Sentences DOC = new Sentences(CHECK, "III", "IV", "The constants", "22", "23", "24", "25", "26", "27", "28", "29",
        "30", "31", "32", "33", "34", "35", "36", "37", "38", "39", "40", "41", "42");
    private static final int[] FAR = {-1, 32, Integer.MIN_VALUE, Integer.MAX_VALUE};
    private static final int LAST_SEED = 65536;

    private static final String TEN = "alp minutes 10 huts 2 prices 50,1,2,3,4;cheese a hut 0";
    private static final String TWENTY = "alp minutes 20 huts 1 prices 10,5,3,2,4;cheese a hut 0";
    private static final String ALWAYS = " from 0 to 20 hands 8 takes 1 huts 0";
    private static final String CALLED = TEN + ";turner t sees from 0 to 1 hands 1 takes 1 huts 0" + ";call t at 1 for 1 costs 1".repeat(6);

    public static void main(String[] args) {
        worth();
        without();
        wake();
        fewest();
        peak();
        slice();
        by();
        cause();
        moreClouds();
        draws();
        cloudsDrawn();
        nights();
        acts();
        undo();
        marks();
        trouble();
        constant();
        promiseWithout();
        promiseWake();
        promiseWakeTotal();
        promiseFewest();
        promiseFewestBy();
        promiseFits();
        promiseBy();
        promiseNights();
        promiseCall();
        promiseCalls();
        promiseCloud();
        promiseDraw();
        promiseLift();
        promiseSeed();
        promiseUndo();
        promiseMark();
        promiseBack();
        promiseEvent();
        promiseLed();
        promiseSize();
        promiseTrouble();
        DOC.end();
        CHECK.end();
    }

    private static void state(String what, EclipseCheese x, int calls, int clouds, int seed, int acts) {
        CHECK.same(what + " calls", x.calls(), calls);
        CHECK.same(what + " clouds", x.size(3), clouds);
        CHECK.same(what + " SEED", x.size(9), seed);
        CHECK.same(what + " acts", x.size(10), acts);
    }

    // ---- Terms III: what could be

    private static void worth() {
        DOC.says("III", "WORTH of a turner: TOTAL less TOTAL without him (CALLS cost as they do).");
        EclipseCheese x = Check.alp(TWENTY + ";cloud 3 to 6;turner s sees from 0 to 5 hands 1 takes 1 huts 0;turner t sees" + ALWAYS
            + ";almanac 9;turner w almanac" + ALWAYS + ";call s at 6 for 1 costs 9");
        CHECK.same("right in 3, 6, false in 9", x.total(), 10 + 5 + 5 - 4);
        CHECK.same("s: t turns as well", x.worth(0), 0);
        CHECK.same("t: missed in 6", x.worth(1), 16 - 8);
        CHECK.same("w: false in 9", x.worth(2), 16 - 20);
        x.call(0, true);
        CHECK.same("less 9", x.total(), 7);
        CHECK.same("s, whose call costs as it does", x.worth(0), 0);
        CHECK.same("t, as s wakes in 6", x.worth(1), 0);
        CHECK.same("and all is as it was", x.total(), 7);
    }

    private static void without() {
        DOC.says("III", "WITHOUT an EVENT: TOTAL if it weren't, less TOTAL.");
        String[] events = {";cloud 3 to 6", ";lamp 0 4 to 9", ";shutter 1 2 to 12", ";bolt 8", ";eclipse 14 to 16", ";cloud 5 to 11"};
        String head = "alp minutes 20 huts 2 prices 60,5,3,2,4;cheese a hut 0;cheese b hut 1"
            + ";turner s sees from 0 to 10 hands 1 takes 1 huts 0,1;turner f blind from 7 to 13 hands 2 takes 2 huts 1";
        EclipseCheese x = Check.alp(head + String.join("", events));
        x.cloud(12, 13);
        int total = x.total();
        for (int e = 0; e < events.length; e++) {
            String[] left = events.clone();
            left[e] = "";
            EclipseCheese y = Check.alp(head + String.join("", left));
            y.cloud(12, 13);
            CHECK.same("without" + events[e], x.without(e), y.total() - total);
            CHECK.same("which is something", y.total() != total, true);
        }
        CHECK.same("without the one that came", x.without(6), Check.alp(head + String.join("", events)).total() - total);
        CHECK.same("and all is as it was", x.total(), total);
        EclipseCheese plain = Check.alp(TWENTY + ";cloud 3 to 6;turner t sees" + ALWAYS);
        CHECK.same("two veins less", plain.without(0), 10 - 20);
        EclipseCheese lamp = Check.alp(TWENTY + ";cloud 3 to 6;lamp 0 4 to 8;turner t sees" + ALWAYS);
        CHECK.same("right in 3, false in 4, missed in 6", lamp.total(), 10 + 5 - 4 - 3);
        CHECK.same("a lamp that lies", lamp.without(1), 20 - 8);
    }

    /* The cheese is to be turned in 10 and 11: each is worth 5. */
    private static String sleeper(int first, int second, int both, int bothAgain) {
        return "alp minutes 20 huts 1 prices 0,5,0,0,0;cheese a hut 0;cloud 10 to 11;turner t sees from 0 to 1 hands 1 takes 1 huts 0"
            + ";call t at 10 for 1 costs " + first + ";call t at 11 for 1 costs " + second + ";call t at 10 for 2 costs " + both
            + ";call t at 10 for 2 costs " + bothAgain + ";slice 10,11;slice 10;slice 11;slice 12";
    }

    private static void wake() {
        DOC.says("III", "WAKE: the set of CALLS made by which TOTAL is most, of like ones of fewest, then the least bits.");
        int[][] due = {{1, 1, 9, 9, 3}, {1, 1, 1, 9, 4}, {1, 1, 2, 9, 4}, {1, 1, 3, 3, 3}, {1, 1, 2, 2, 4}, {1, 1, 3, 2, 8}, {5, 5, 10, 10, 0},
            {4, 6, 9, 9, 1}, {6, 4, 9, 9, 2}, {0, 0, 0, 0, 4}, {9, 9, 99, 99, 0}, {4, 4, 11, 11, 3}, {4, 5, 11, 11, 1}};
        for (int[] d : due) {
            EclipseCheese x = Check.alp(sleeper(d[0], d[1], d[2], d[3]));
            CHECK.same("costs " + d[0] + " " + d[1] + " " + d[2] + " " + d[3], x.wake(), d[4]);
            x.call(1, true);
            CHECK.same("whatever is made", x.wake(), d[4]);
            CHECK.same("which stays", x.calls(), 2);
        }
    }

    private static void fewest() {
        DOC.says("III", "FEWEST: the least number of turners who by themselves, with the CALLS made, miss nothing; of like ones the least bits.");
        String early = ";turner s sees from 0 to 5 hands 1 takes 1 huts 0";
        String late = ";turner t deaf from 5 to 20 hands 1 takes 1 huts 0";
        String head = TWENTY + ";cloud 3 to 6";
        EclipseCheese x = Check.alp(head + early + late + ";turner u blind" + ALWAYS + ";turner v sees" + ALWAYS + ";call s at 6 for 1 costs 1");
        CHECK.same("one", x.fewest(), 1);
        CHECK.same("the first of like ones", x.fewestBy(), 4);
        x.call(0, true);
        CHECK.same("one, called", x.fewest(), 1);
        CHECK.same("who is the least", x.fewestBy(), 1);
        EclipseCheese two = Check.alp(head + early + late);
        CHECK.same("two", two.fewest(), 2);
        CHECK.same("both", two.fewestBy(), 3);
        EclipseCheese three = Check.alp(head + ";turner r deaf from 0 to 1 hands 1 takes 1 huts 0" + late + early + early.replace(" s ", " y "));
        CHECK.same("two of four", three.fewest(), 2);
        CHECK.same("the least bits", three.fewestBy(), 6);
        EclipseCheese none = Check.alp(TWENTY + early);
        CHECK.same("nothing is to be missed", none.fewest(), 0);
        CHECK.same("by none", none.fewestBy(), 0);
    }

    private static void peak() {
        DOC.says("III", "PEAK: the minute in which most cheeses are in huts that CHANGE, the first such.");
        CHECK.same("two cheeses", Check.alp(TEN + ";cheese b hut 1;cheese c hut 1;shutter 0 2 to 3;shutter 1 5 to 6").peak(), 5);
        CHECK.same("both huts", Check.alp(TEN + ";cheese b hut 1;shutter 0 2 to 8;shutter 1 5 to 8").peak(), 8);
        CHECK.same("the first", Check.alp(TEN + ";cheese b hut 1;cloud 4 to 7").peak(), 4);
        EclipseCheese x = Check.alp(TEN + ";cheese b hut 1;shutter 0 2 to 3");
        CHECK.same("one", x.peak(), 2);
        x.cloud(6, 9);
        CHECK.same("a cloud more", x.peak(), 6);
    }

    private static void slice() {
        DOC.says("III", "A SLICE is of a cheese whose VEINS are just its minutes.");
        EclipseCheese x = Check.alp("alp minutes 20 huts 2 prices 0,0,0,0,0;cheese a hut 0;cheese b hut 1;cheese c hut 0;cheese d hut 0"
            + ";shutter 0 4 to 8;turner t sees from 0 to 20 hands 2 takes 1 huts 0,1;slice 4,8;slice 4;slice 4,8,9;slice 4,7");
        CHECK.same("a, c: c of the same veins", x.fits(0), 5);
        CHECK.same("too few", x.fits(1), 0);
        CHECK.same("too many", x.fits(2), 0);
        CHECK.same("another", x.fits(3), 0);
        EclipseCheese eight = Check.alp("alp minutes 20 huts 1 prices 0,0,0,0,0;cheese a hut 0;almanac 1,3,5,7,9,11,13,19"
            + ";turner t almanac" + ALWAYS + ";slice 1,3,5,7,9,11,13,19;slice 1,3,5,7,9,11,13");
        CHECK.same("false ones, too", eight.fits(0), 1);
        CHECK.same("seven", eight.fits(1), 0);
    }

    private static void by() {
        DOC.says("III", "BY: the CALLS, of fewest, then the least bits, by which, made alone, it is of some cheese.");
        EclipseCheese x = Check.alp(sleeper(1, 1, 99, 0));
        int[] due = {4, 1, 2, -2};
        for (int i = 0; i < 2; i++) {
            for (int slice = 0; slice < 4; slice++) {
                CHECK.same("by " + slice, x.by(slice), due[slice]);
            }
            x.call(0, true);
        }
        CHECK.same("the calls stay", x.calls(), 1);
        EclipseCheese none = Check.alp(TWENTY + ";cheese b hut 0 down;cloud 3 to 6;turner t sees from 0 to 20 hands 1 takes 1 huts 0"
            + ";call t at 1 for 1 costs 1;slice 3,6");
        CHECK.same("without any", none.by(0), 0);
        EclipseCheese two = Check.alp(sleeper(1, 1, 1, 1).replace("10 for 2", "10 for 1"));
        CHECK.same("the first two of like pairs", two.by(0), 3);
        CHECK.same("the first of like ones", two.by(1), 1);
    }

    private static void cause() {
        DOC.says("III", "CAUSE of a VEIN: the first EVENT (of any hut's) that begins in its minute or ends there (a lightning ends a minute later).");
        EclipseCheese x = Check.alp(TEN + ";lamp 1 3 to 5;bolt 5;cloud 5 to 8;shutter 0 8 to 9;almanac 2,3,4,5,6,7,8,9"
            + ";turner t almanac from 0 to 10 hands 1 takes 1 huts 0");
        int[] due = {-2, 0, -2, 0, 1, -2, 2, 3};
        for (int i = 0; i < 8; i++) {
            CHECK.same("cause " + i, x.cause(0, i), due[i]);
        }
        x.cloud(2, 7);
        CHECK.same("a cloud that came begins", x.cause(0, 0), 4);
        CHECK.same("and ends", x.cause(0, 5), 4);
        CHECK.same("behind the told ones", x.cause(0, 6), 2);
    }

    private static void moreClouds() {
        DOC.says("III", "MORE clouds: up to 6, behind the EVENTS.");
        EclipseCheese x = Check.alp(TEN + ";bolt 9;lamp 1 0 to 10");
        for (int i = 0; i < 6; i++) {
            CHECK.fine("cloud " + i, x, x.cloud(i, i + 2));
            CHECK.same("kind", x.event(2 + i, 0), 0);
            CHECK.same("from", x.event(2 + i, 2), i);
            CHECK.same("to", x.event(2 + i, 3), i + 2);
        }
        CHECK.refused("a seventh", x, x.cloud(8, 9), 3);
        CHECK.refused("drawn", x, x.draw(), -1, 3);
        CHECK.same("six", x.size(3), 6);
        CHECK.same("two told", x.size(2), 2);
        CHECK.same("the first of them", x.event(0, 0), 4);
    }

    private static int drawn(int seed) {
        return (int) ((75L * seed + 74) % 65537);
    }

    private static void draws() {
        DOC.says("III", "A DRAW: SEED becomes (75 times SEED and 74) mod 65,537.");
        CHECK.same("of 0", drawn(drawn(0)), 5624);
        for (int seed : new int[] {0, 1, 872, 873, 874, 12345, 32768, LAST_SEED - 1, LAST_SEED}) {
            EclipseCheese x = Check.alp(TEN);
            x.seed(seed);
            x.draw();
            CHECK.same("two of " + seed, x.size(9), drawn(drawn(seed)));
        }
    }

    private static void cloudsDrawn() {
        DOC.says("III", "A cloud drawn: from a DRAW mod all minutes, for 1 and a DRAW mod 20 minutes, to the end at most.");
        for (int minutes : new int[] {10, 17, 240}) {
            EclipseCheese x = Check.alp("alp minutes " + minutes + " huts 1 prices 0,0,0,0,0;cheese a hut 0");
            for (int i = 0; i < 60; i++) {
                int seed = 1091 * i;
                x.seed(seed);
                int from = drawn(seed) % minutes;
                CHECK.same("from", x.draw(), from);
                CHECK.same("from", x.event(0, 2), from);
                CHECK.same("to", x.event(0, 3), Math.min(minutes, from + 1 + drawn(drawn(seed)) % 20));
                x.lift();
            }
        }
    }

    private static void nights() {
        DOC.says("III", "NIGHTS: SEED as told, so many nights; in each, without those that came, so many clouds are drawn:"
            + " all their TOTALS together (SEED, clouds stay as they are).");
        String text = "alp minutes 240 huts 2 prices 99,2,3,1,1;cheese a hut 0;cheese b hut 1;bolt 30;lamp 1 20 to 30;cloud 7 to 9"
            + ";turner t sees from 0 to 130 hands 1 takes 3 huts 0,1;turner u blind from 100 to 235 hands 2 takes 9 huts 1,0;call t at 190 for 40 costs 3";
        for (int clouds = 0; clouds <= 6; clouds++) {
            EclipseCheese drawn = Check.alp(text);
            drawn.call(0, true);
            drawn.seed(4711);
            EclipseCheese x = Check.alp(text);
            x.call(0, true);
            x.cloud(3, 5);
            x.seed(99);
            int sum = 0;
            for (int n = 1; n <= 8; n++) {
                for (int i = 0; i < clouds; i++) {
                    drawn.draw();
                }
                sum += drawn.total();
                CHECK.same("nights " + n + " of " + clouds, x.nights(4711, n, clouds), sum);
                for (int i = 0; i < clouds; i++) {
                    drawn.lift();
                }
            }
            state("stays", x, 1, 1, 99, 2);
            CHECK.same("the cloud stays", x.event(3, 2), 3);
            CHECK.same("and is seen", x.sky(3), 0);
        }
    }

    // ---- Terms III: acts

    private static void acts() {
        DOC.says("III", "ACTS: CALL, a CLOUD by hand, drawn, LIFTED (the latest that came).");
        EclipseCheese x = Check.alp(CALLED);
        x.call(3, true);
        state("a call", x, 8, 0, 0, 1);
        x.cloud(2, 4);
        state("a cloud", x, 8, 1, 0, 2);
        x.draw();
        state("drawn", x, 8, 2, 5624, 3);
        x.lift();
        state("lifted", x, 8, 1, 5624, 4);
        CHECK.same("the latest", x.event(0, 2), 2);
        x.call(3, false);
        state("a call not any more", x, 0, 1, 5624, 5);
        x.seed(4);
        x.mark();
        x.total();
        x.nights(1, 2, 3);
        x.wake();
        state("no acts", x, 0, 1, 4, 5);
        x.call(9, true);
        x.call(3, false);
        x.cloud(4, 4);
        state("refused ones are none", x, 0, 1, 4, 5);
    }

    private static void undo() {
        DOC.says("III", "UNDO: CALLS, clouds that came, SEED are as ahead of the latest (12 are kept).");
        EclipseCheese x = Check.alp(CALLED);
        x.seed(7);
        x.call(2, true);
        x.cloud(2, 5);
        x.seed(8);
        x.draw();
        x.lift();
        x.lift();
        x.undo();
        state("lifted", x, 4, 1, drawn(drawn(8)), 4);
        CHECK.same("the cloud again", x.event(0, 3), 5);
        CHECK.same("and dark", x.sky(4), 0);
        x.undo();
        state("lifted", x, 4, 2, drawn(drawn(8)), 3);
        CHECK.same("the drawn one again", x.event(1, 2), drawn(8) % 10);
        x.undo();
        state("drawn", x, 4, 1, 8, 2);
        x.lift();
        x.cloud(6, 9);
        x.undo();
        x.undo();
        CHECK.same("lifted, and another came: from", x.event(0, 2), 2);
        CHECK.same("to", x.event(0, 3), 5);
        x.undo();
        state("a cloud, and SEED ahead of it", x, 4, 0, 7, 1);
        CHECK.same("bright", x.sky(4), 1);
        x.undo();
        state("a call", x, 0, 0, 7, 0);
        CHECK.refused("nothing is left", x, x.undo(), 6);
        for (int i = 0; i < 20; i++) {
            x.seed(i);
            x.call(0, i % 2 == 0);
            CHECK.same("kept", x.size(10), Math.min(i + 1, 12));
        }
        for (int i = 19; i >= 8; i--) {
            CHECK.fine("undo " + i, x, x.undo());
            state("undo " + i, x, i % 2, 0, i, i - 8);
        }
        CHECK.refused("twelve", x, x.undo(), 6);
    }

    private static void marks() {
        DOC.says("III", "MARKS: up to 3; each keeps these; gone back to, nothing can be undone.");
        EclipseCheese x = Check.alp(CALLED);
        CHECK.fine("the first", x, x.mark(), 0);
        x.call(1, true);
        x.cloud(4, 6);
        x.seed(5);
        CHECK.fine("the second", x, x.mark(), 1);
        x.cloud(7, 8);
        x.call(5, true);
        x.draw();
        CHECK.fine("the third", x, x.mark(), 2);
        CHECK.refused("no fourth", x, x.mark(), -1, 3);
        state("a mark leaves all", x, 34, 3, drawn(drawn(5)), 5);
        for (int i = 0; i < 2; i++) {
            x.back(1);
            state("the second", x, 2, 1, 5, 0);
            CHECK.same("its cloud", x.event(0, 3), 6);
            CHECK.same("dark", x.sky(4), 0);
            CHECK.same("bright", x.sky(7), 1);
            CHECK.refused("nothing can be undone", x, x.undo(), 6);
            x.lift();
            x.cloud(0, 1);
            x.back(2);
            state("the third", x, 34, 3, drawn(drawn(5)), 0);
            CHECK.same("its clouds", x.event(1, 2), 7);
            CHECK.same("its first", x.event(0, 2), 4);
            CHECK.same("its first", x.event(0, 3), 6);
            CHECK.same("dark", x.sky(7), 0);
            x.back(0);
            state("the first", x, 0, 0, 0, 0);
            CHECK.same("bright again", x.sky(4), 1);
            x.call(0, true);
            x.seed(9);
        }
    }

    // ---- Terms IV

    private static void trouble() {
        DOC.says("IV", "TROUBLE of the latest call that may be refused (those of which a number is told here): 0 it wasn't;"
            + " 1 there is none such; 2 a number; 3 no room; 4 a FAULT; 5 not so; 6 there is none.");
        EclipseCheese x = Check.alp(CALLED);
        CHECK.same("alp", x.trouble(), 0);
        CHECK.refused("none such", x, x.call(6, true), 1);
        CHECK.fine("it wasn't", x, x.call(5, true));
        CHECK.refused("a number", x, x.sky(10), -1, 2);
        CHECK.fine("it wasn't", x, x.sky(9), 1);
        x.mark();
        x.mark();
        CHECK.fine("it wasn't", x, x.mark(), 2);
        CHECK.refused("no room", x, x.mark(), -1, 3);
        CHECK.refused("not so", x, x.call(5, true), 5);
        CHECK.refused("there is none", x, x.lift(), 6);
        CHECK.refused("a FAULT", x, Check.tell(x, "fog"), -1, 4);
        leftAlone(x, 4);
        x.sky(10);
        leftAlone(x, 2);
        x.total();
        leftAlone(x, 0);
    }

    /** Of these calls no number is told. */
    private static void leftAlone(EclipseCheese x, int trouble) {
        x.feed(0, 0, 0, 0, 0);
        CHECK.same("feed", x.trouble(), trouble);
        x.fault();
        CHECK.same("fault", x.trouble(), trouble);
        x.where();
        CHECK.same("where", x.trouble(), trouble);
        x.size(-1);
        CHECK.same("size", x.trouble(), trouble);
        Check.seen(x, 99);
        CHECK.same("led", x.trouble(), trouble);
    }

    private static void constant() {
        DOC.says("The constants", "NONE = -1: There is none; refused.");
        CHECK.same("NONE", EclipseCheese.NONE, -1);
        EclipseCheese x = Check.alp(TEN);
        CHECK.same("refused", x.sky(-1), EclipseCheese.NONE);
        CHECK.same("there is none", x.size(13), EclipseCheese.NONE);
        CHECK.same("no place", x.where(), EclipseCheese.NONE);
    }

    // ---- promises 22 to 29

    private static void promiseWithout() {
        DOC.says("22", "WITHOUT (told EVENTS, then clouds that came). -100,000: 1.");
        EclipseCheese x = Check.alp(TWENTY + ";cloud 3 to 6;bolt 8;turner t sees from 0 to 7 hands 1 takes 1 huts 0");
        CHECK.fine("the first", x, x.without(0), 8 - 18);
        CHECK.fine("the last told", x, x.without(1), 2);
        CHECK.refused("none came yet", x, x.without(2), -100000, 1);
        x.cloud(9, 11);
        x.cloud(12, 13);
        CHECK.fine("the first that came", x, x.without(2), 6);
        CHECK.fine("the last that came", x, x.without(3), 6);
        CHECK.refused("no more", x, x.without(4), -100000, 1);
        for (int far : FAR) {
            CHECK.refused("event " + far, x, x.without(far), -100000, 1);
        }
        EclipseCheese none = new EclipseCheese();
        CHECK.refused("no ALP", none, none.without(0), -100000, 1);
    }

    private static void promiseWake() {
        DOC.says("23", "WAKE, as bits. NONE: 1 (no ALP).");
        EclipseCheese x = Check.alp(sleeper(1, 1, 9, 9));
        CHECK.fine("0 and 1", x, x.wake(), 3);
        EclipseCheese bare = Check.alp(TEN);
        CHECK.fine("no calls", bare, bare.wake(), 0);
        EclipseCheese none = new EclipseCheese();
        CHECK.refused("no ALP", none, none.wake(), -1, 1);
    }

    private static void promiseWakeTotal() {
        DOC.says("24", "TOTAL by WAKE. -100,000: 1 (no ALP).");
        EclipseCheese x = Check.alp(sleeper(1, 2, 9, 9));
        CHECK.fine("10 less 3", x, x.wakeTotal(), 7);
        x.call(2, true);
        CHECK.fine("whatever is made", x, x.wakeTotal(), 7);
        CHECK.same("which stays", x.total(), 1);
        EclipseCheese bare = Check.alp(TEN);
        CHECK.fine("no calls", bare, bare.wakeTotal(), 50);
        EclipseCheese none = new EclipseCheese();
        CHECK.refused("no ALP", none, none.wakeTotal(), -100000, 1);
    }

    private static final String TWO_TURNERS = TWENTY + ";cloud 3 to 6;turner s deaf from 0 to 4 hands 1 takes 1 huts 0;turner u deaf from 0 to 3 hands 1 takes 1 huts 0"
        + ";turner t deaf from 4 to 9 hands 1 takes 1 huts 0";

    private static void promiseFewest() {
        DOC.says("25", "FEWEST; -2 if all together miss something. NONE: 1 (no ALP).");
        EclipseCheese x = Check.alp(TWO_TURNERS);
        CHECK.fine("two", x, x.fewest(), 2);
        x.cloud(9, 12);
        CHECK.fine("all miss 9", x, x.fewest(), -2);
        EclipseCheese bare = Check.alp(TEN + ";cloud 1 to 2");
        CHECK.fine("no turners", bare, bare.fewest(), -2);
        EclipseCheese none = new EclipseCheese();
        CHECK.refused("no ALP", none, none.fewest(), -1, 1);
    }

    private static void promiseFewestBy() {
        DOC.says("26", "They, as bits; -2. NONE: 1 (no ALP).");
        EclipseCheese x = Check.alp(TWO_TURNERS);
        CHECK.fine("0 and 2", x, x.fewestBy(), 5);
        x.cloud(9, 12);
        CHECK.fine("all miss 9", x, x.fewestBy(), -2);
        EclipseCheese bare = Check.alp(TEN + ";cloud 1 to 2");
        CHECK.fine("no turners", bare, bare.fewestBy(), -2);
        EclipseCheese none = new EclipseCheese();
        CHECK.refused("no ALP", none, none.fewestBy(), -1, 1);
    }

    private static void promiseFits() {
        DOC.says("27", "Cheeses that a SLICE is of, as bits. NONE: 1.");
        EclipseCheese x = Check.alp(sleeper(1, 1, 1, 1));
        CHECK.fine("of none", x, x.fits(0), 0);
        x.call(2, true);
        CHECK.fine("of the cheese", x, x.fits(0), 1);
        CHECK.fine("the last", x, x.fits(3), 0);
        EclipseCheese eight = Check.alp("alp minutes 20 huts 2 prices 0,0,0,0,0;cloud 4 to 20;cheese a hut 0;cheese b hut 1;cheese c hut 0;cheese d hut 1"
            + ";cheese e hut 1;cheese f hut 1;cheese g hut 1;cheese h hut 0;turner t sees" + ALWAYS + ";slice 4");
        CHECK.fine("bits", eight, eight.fits(0), 1 + 4 + 128);
        for (int far : new int[] {4, -1, 32, Integer.MAX_VALUE}) {
            CHECK.refused("slice " + far, x, x.fits(far), -1, 1);
        }
        EclipseCheese none = new EclipseCheese();
        CHECK.refused("no ALP", none, none.fits(0), -1, 1);
    }

    private static void promiseBy() {
        DOC.says("28", "BY, as bits; -2 if there are none such. NONE: 1.");
        EclipseCheese x = Check.alp(sleeper(1, 1, 1, 1));
        CHECK.fine("10, 11", x, x.by(0), 4);
        CHECK.fine("none such", x, x.by(3), -2);
        for (int far : new int[] {4, -1, 32, Integer.MAX_VALUE}) {
            CHECK.refused("slice " + far, x, x.by(far), -1, 1);
        }
        EclipseCheese none = new EclipseCheese();
        CHECK.refused("no ALP", none, none.by(0), -1, 1);
    }

    private static void promiseNights() {
        DOC.says("29", "NIGHTS (1 .. 8, of 0 .. 6 clouds). -100,000: 1 (no ALP); 2 (SEED, nights, clouds).");
        EclipseCheese x = Check.alp(TEN);
        EclipseCheese none = new EclipseCheese();
        CHECK.fine("the least", x, x.nights(0, 1, 0), 50);
        x.seed(LAST_SEED);
        for (int i = 0; i < 6; i++) {
            x.draw();
        }
        CHECK.fine("one of six, of the last SEED", x, x.nights(LAST_SEED, 1, 6), x.total());
        CHECK.fine("eight", x, x.nights(0, 8, 0), 400);
        int[][] wrong = {{-1, 1, 0}, {65537, 1, 0}, {0, 0, 0}, {0, 9, 0}, {0, 1, -1}, {0, 1, 7}, {-1, 0, 7}};
        for (int[] w : wrong) {
            CHECK.refused("nights " + w[0] + " " + w[1] + " " + w[2], x, x.nights(w[0], w[1], w[2]), -100000, 2);
            CHECK.refused("no ALP", none, none.nights(w[0], w[1], w[2]), -100000, 1);
        }
        CHECK.refused("no ALP", none, none.nights(0, 1, 0), -100000, 1);
    }

    // ---- promises 30 to 38

    private static void promiseCall() {
        DOC.says("30", "A CALL is made, or not any more: true; false: 1; 5 (it is so already).");
        EclipseCheese x = Check.alp(CALLED);
        CHECK.refused("not made", x, x.call(5, false), 5);
        CHECK.fine("made", x, x.call(5, true));
        CHECK.refused("made already", x, x.call(5, true), 5);
        CHECK.same("awake", x.awake(0, 1), 1);
        CHECK.fine("not any more", x, x.call(5, false));
        CHECK.same("asleep", x.awake(0, 1), 0);
        for (int far : new int[] {6, -1, 32, Integer.MIN_VALUE, Integer.MAX_VALUE}) {
            CHECK.refused("call " + far, x, x.call(far, true), 1);
            CHECK.refused("call " + far, x, x.call(far, false), 1);
        }
        EclipseCheese none = new EclipseCheese();
        CHECK.refused("no ALP", none, none.call(0, true), 1);
    }

    private static void promiseCalls() {
        DOC.says("31", "CALLS made, as bits. NONE: 1 (no ALP).");
        EclipseCheese x = Check.alp(CALLED);
        CHECK.fine("none", x, x.calls(), 0);
        x.call(5, true);
        x.call(1, true);
        CHECK.fine("1 and 5", x, x.calls(), 34);
        EclipseCheese none = new EclipseCheese();
        CHECK.refused("no ALP", none, none.calls(), -1, 1);
    }

    private static void promiseCloud() {
        DOC.says("32", "A CLOUD more from a minute to ahead of another one: true; false: 1 (no ALP); 2 (as for EVENTS); 3 (6 came).");
        EclipseCheese x = Check.alp(TEN);
        EclipseCheese none = new EclipseCheese();
        CHECK.refused("no ALP", none, none.cloud(1, 2), 1);
        int[][] wrong = {{-1, 3}, {10, 11}, {4, 4}, {4, 3}, {4, 11}, {Integer.MIN_VALUE, 1}, {0, Integer.MAX_VALUE}};
        for (int[] w : wrong) {
            CHECK.refused("cloud " + w[0] + " " + w[1], x, x.cloud(w[0], w[1]), 2);
        }
        CHECK.fine("cloud", x, x.cloud(4, 7));
        CHECK.row("sky", x, x::sky, "1111000111");
        CHECK.fine("the last minute", x, x.cloud(9, 10));
        CHECK.row("sky", x, x::sky, "1111000110");
        CHECK.fine("all", x, x.cloud(0, 10));
        CHECK.row("sky", x, x::sky, "0000000000");
        for (int i = 3; i < 6; i++) {
            CHECK.fine("cloud " + i, x, x.cloud(0, 1));
        }
        CHECK.refused("6 came", x, x.cloud(0, 1), 3);
    }

    private static void promiseDraw() {
        DOC.says("33", "One is drawn: the minute from which it is. NONE: 1 (no ALP); 3.");
        EclipseCheese x = Check.alp(TEN);
        EclipseCheese none = new EclipseCheese();
        CHECK.refused("no ALP", none, none.draw(), -1, 1);
        int seed = 0;
        for (int i = 0; i < 6; i++) {
            seed = drawn(seed);
            CHECK.fine("draw " + i, x, x.draw(), seed % 10);
            CHECK.same("came", x.size(3), i + 1);
            CHECK.same("dark", x.sky(seed % 10), 0);
            seed = drawn(seed);
        }
        CHECK.refused("6 came", x, x.draw(), -1, 3);
        CHECK.same("SEED stays", x.size(9), seed);
    }

    private static void promiseLift() {
        DOC.says("34", "LIFTED: true; false: 6.");
        EclipseCheese x = Check.alp(TEN + ";cloud 1 to 2");
        EclipseCheese none = new EclipseCheese();
        CHECK.refused("no ALP", none, none.lift(), 6);
        CHECK.refused("none came", x, x.lift(), 6);
        x.cloud(3, 4);
        x.cloud(5, 6);
        CHECK.fine("the later", x, x.lift());
        CHECK.row("sky", x, x::sky, "1010111111");
        CHECK.fine("the other", x, x.lift());
        CHECK.row("sky", x, x::sky, "1011111111");
        CHECK.refused("none is left", x, x.lift(), 6);
    }

    private static void promiseSeed() {
        DOC.says("35", "SEED (no ACT): true; false: 1 (no ALP); 2 (0 .. 65,536).");
        EclipseCheese x = Check.alp(TEN);
        EclipseCheese none = new EclipseCheese();
        CHECK.refused("no ALP", none, none.seed(0), 1);
        CHECK.refused("no ALP, no number", none, none.seed(-1), 1);
        for (int seed : new int[] {LAST_SEED, 1, 0}) {
            CHECK.fine("seed", x, x.seed(seed));
            CHECK.same("SEED", x.size(9), seed);
            CHECK.refused("seed -1", x, x.seed(-1), 2);
            CHECK.refused("seed 65537", x, x.seed(65537), 2);
            CHECK.same("SEED stays", x.size(9), seed);
        }
        CHECK.same("no ACT", x.size(10), 0);
    }

    private static void promiseUndo() {
        DOC.says("36", "UNDO: true; false: 6.");
        EclipseCheese x = Check.alp(TEN);
        EclipseCheese none = new EclipseCheese();
        CHECK.refused("no ALP", none, none.undo(), 6);
        CHECK.refused("nothing", x, x.undo(), 6);
        x.cloud(3, 4);
        CHECK.fine("undo", x, x.undo());
        CHECK.same("bright", x.sky(3), 1);
        CHECK.refused("nothing again", x, x.undo(), 6);
    }

    private static void promiseMark() {
        DOC.says("37", "A MARK: its number. NONE: 1 (no ALP); 3.");
        EclipseCheese x = Check.alp(TEN);
        EclipseCheese none = new EclipseCheese();
        CHECK.refused("no ALP", none, none.mark(), -1, 1);
        for (int i = 0; i < 3; i++) {
            CHECK.fine("mark", x, x.mark(), i);
            CHECK.same("marks", x.size(11), i + 1);
        }
        CHECK.refused("a fourth", x, x.mark(), -1, 3);
        CHECK.same("three", x.size(11), 3);
    }

    private static void promiseBack() {
        DOC.says("38", "All is as by a MARK (all MARKS stay): true; false: 1.");
        EclipseCheese x = Check.alp(CALLED);
        EclipseCheese none = new EclipseCheese();
        CHECK.refused("no ALP", none, none.back(0), 1);
        CHECK.refused("none yet", x, x.back(0), 1);
        x.mark();
        x.call(0, true);
        x.cloud(3, 4);
        x.seed(5);
        x.mark();
        CHECK.fine("back", x, x.back(0));
        state("the first", x, 0, 0, 0, 0);
        CHECK.same("marks stay", x.size(11), 2);
        CHECK.fine("to the later", x, x.back(1));
        state("the second", x, 1, 1, 5, 0);
        CHECK.same("marks stay", x.size(11), 2);
        CHECK.refused("a third", x, x.back(2), 1);
        for (int far : FAR) {
            CHECK.refused("back " + far, x, x.back(far), 1);
        }
    }

    // ---- promises 39 to 42

    private static void promiseEvent() {
        DOC.says("39", "Of an EVENT (told ones, then clouds that came) 0 its kind (0 cloud, 1 eclipse, 2 lamp, 3 shutter, 4 lightning),"
            + " 1 its hut (-2), 2 from, 3 to (ahead of it). NONE: 1.");
        EclipseCheese x = Check.alp(TEN + ";bolt 9;shutter 1 2 to 3;lamp 0 4 to 10;eclipse 5 to 7;cloud 0 to 1");
        x.cloud(3, 8);
        int[][] due = {{4, -2, 9, 10}, {3, 1, 2, 3}, {2, 0, 4, 10}, {1, -2, 5, 7}, {0, -2, 0, 1}, {0, -2, 3, 8}};
        for (int e = 0; e < 6; e++) {
            for (int what = 0; what < 4; what++) {
                CHECK.fine("event " + e + " " + what, x, x.event(e, what), due[e][what]);
            }
            CHECK.refused("what 4", x, x.event(e, 4), -1, 1);
            CHECK.refused("what -1", x, x.event(e, -1), -1, 1);
        }
        CHECK.refused("event 6", x, x.event(6, 0), -1, 1);
        for (int far : FAR) {
            CHECK.refused("event " + far, x, x.event(far, 0), -1, 1);
        }
        EclipseCheese none = new EclipseCheese();
        CHECK.refused("no ALP", none, none.event(0, 0), -1, 1);
    }

    private static void promiseLed() {
        DOC.says("40", "throws NoSuchElementException: The i-th cheese that MISSED something. NoSuchElementException if there is none such.");
        EclipseCheese x = Check.alp("alp minutes 10 huts 2 prices 0,0,0,0,0;cheese a hut 0;cheese b hut 1;cheese c hut 0;cheese d hut 1;shutter 1 3 to 4");
        CHECK.same("b", Check.seen(x, 0), 1);
        CHECK.same("d", Check.seen(x, 1), 3);
        CHECK.same("no more", Check.seen(x, 2), Check.THROWN);
        x.cloud(7, 8);
        for (int i = 0; i < 4; i++) {
            CHECK.same("all", Check.seen(x, i), i);
        }
        CHECK.same("no more", Check.seen(x, 4), Check.THROWN);
        for (int far : FAR) {
            CHECK.same("led " + far, Check.seen(x, far), Check.THROWN);
        }
        EclipseCheese once = Check.alp("alp minutes 10 huts 2 prices 0,0,0,0,0;cheese a hut 0;cheese b hut 1;shutter 1 3 to 10");
        CHECK.same("missed but once", Check.seen(once, 0), 1);
        CHECK.same("no ALP", Check.seen(new EclipseCheese(), 0), Check.THROWN);
        CHECK.same("nothing missed", Check.seen(Check.alp(TEN), 0), Check.THROWN);
    }

    private static void promiseSize() {
        DOC.says("41", "0 minutes, 1 huts, 2 EVENTS told, 3 clouds that came, 4 cheeses, 5 turners, 6 CALLS told, 7 SLICES,"
            + " 8 minutes of the almanac, 9 SEED, 10 ACTS that can be undone, 11 MARKS, 12 bytes of THE TAPE. NONE for others;"
            + " 0 for what there isn't.");
        String turner = " sees from 0 to 10 hands 1 takes 1 huts 0";
        EclipseCheese x = Check.alp("alp minutes 19 huts 4 prices 0,0,0,0,0;bolt 1;bolt 2;bolt 3;cheese a hut 0;cheese b hut 1;turner t" + turner
            + ";turner u" + turner + ";turner v" + turner + ";call t at 1 for 1 costs 1;call u at 1 for 1 costs 1;slice 1,2,3,4,5,6,7;almanac 3,4,5,6,7,8");
        x.cloud(2, 3);
        x.cloud(2, 3);
        x.call(0, true);
        x.draw();
        x.lift();
        x.mark();
        x.mark();
        x.seed(4321);
        x.feed(0, 0, 0, 0, 0);
        x.feed(0, 0, 0, 0, 0);
        int[] due = {19, 4, 3, 2, 2, 3, 2, 1, 6, 4321, 5, 2, 40};
        EclipseCheese none = new EclipseCheese();
        for (int what = 0; what <= 12; what++) {
            CHECK.same("size " + what, x.size(what), due[what]);
            CHECK.same("no ALP " + what, none.size(what), 0);
        }
        for (int what : new int[] {-1, 13, Integer.MIN_VALUE, Integer.MAX_VALUE}) {
            CHECK.same("size " + what, x.size(what), -1);
            CHECK.same("no ALP " + what, none.size(what), -1);
        }
        EclipseCheese bare = Check.alp(TEN);
        int[] ofBare = {10, 2, 0, 0, 1, 0, 0, 0, 0, 0, 0, 0, 0};
        for (int what = 0; what <= 12; what++) {
            CHECK.same("bare " + what, bare.size(what), ofBare[what]);
        }
    }

    private static void promiseTrouble() {
        DOC.says("42", "TROUBLE.");
        EclipseCheese x = new EclipseCheese();
        CHECK.same("none yet", x.trouble(), 0);
        x.undo();
        CHECK.same("6", x.trouble(), 6);
        CHECK.same("asked again", x.trouble(), 6);
        Check.tell(x, TEN);
        CHECK.same("0", x.trouble(), 0);
    }
}

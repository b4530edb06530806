/**
 * The edges of Terms III and of promises 22 to 41, a method for each sentence: none, one and all of turners, calls,
 * clouds, acts, marks; SEED at its ends and where it wraps around; clouds drawn to the end.
 */
public final class ActsEdgeTest {
    private static final Check CHECK = new Check("ActsEdgeTest");
    private static final String TEN = "alp minutes 10 huts 1 prices 50,1,2,3,4;cheese a hut 0";
    private static final int LAST_SEED = 65536;

    public static void main(String[] args) {
        withoutEachEvent();
        withoutNothingThatIs();
        wakeOfNoCalls();
        wakeOfAllCalls();
        wakeOfLikeOnes();
        fewestFromNoneToFive();
        fewestOfLikeOnes();
        fewestOfEightCheeses();
        fitsFromNoneToAllCheeses();
        fitsJustItsMinutes();
        byNoneToAllCalls();
        byOfLikeOnes();
        drawsOfSeeds();
        drawnCloudsAtTheEdges();
        nightsAtTheEdges();
        nightsGoOnWithSeed();
        cloudsAtTheEdges();
        cloudsUpToSix();
        roomForCloudsAgain();
        liftsTheLatest();
        callsByBits();
        seedAtTheEdges();
        twelveActsOfEachSort();
        undoesEachAct();
        actsBehindAnUndo();
        marksUpToThree();
        marksKeepAll();
        backLeavesNothingToUndo();
        anewThereIsNothing();
        eventsToTheLast();
        ledFromNoneToAll();
        sizesAtTheEdges();
        CHECK.end();
    }

    private static int drawnFrom(int seed) {
        return (75 * seed + 74) % 65537;
    }

    /** In minutes 1, 4, 7 .. the hut is dark: each needs a turn as it begins and as it ends. */
    private static String shutters(int many) {
        StringBuilder text = new StringBuilder("alp minutes 20 huts 1 prices 0,1,0,0,0;cheese a hut 0");
        for (int i = 0; i < many; i++) {
            text.append(";shutter 0 ").append(3 * i + 1).append(" to ").append(3 * i + 2);
        }
        return text.toString();
    }

    private static String turner(int i, int from) {
        return ";turner t" + (char) ('a' + i) + " sees from " + from + " to " + (from + 2) + " hands 1 takes 1 huts 0";
    }

    private static String call(int at, int lasts, int costs) {
        return ";call ta at " + at + " for " + lasts + " costs " + costs;
    }

    // ---- what could be

    /* "WITHOUT (told EVENTS, then clouds that came). -100,000: 1". */
    private static void withoutEachEvent() {
        EclipseCheese x = Check.alp(TEN + ";cloud 1 to 2;bolt 4;cloud 9 to 10");
        CHECK.fine("the first told", x, x.without(0), 4);
        CHECK.fine("a bolt", x, x.without(1), 3);
        CHECK.fine("the last told", x, x.without(2), 2);
        CHECK.refused("none came", x, x.without(3), -100000, 1);
        CHECK.refused("-1", x, x.without(-1), -100000, 1);
        for (int i = 0; i < 6; i++) {
            x.cloud(i == 5 ? 6 : 9, i == 5 ? 7 : 10);
        }
        CHECK.fine("the first that came, above others", x, x.without(3), 0);
        CHECK.fine("the sixth", x, x.without(8), 4);
        CHECK.refused("no seventh", x, x.without(9), -100000, 1);
        x.lift();
        CHECK.refused("lifted", x, x.without(8), -100000, 1);
    }

    private static void withoutNothingThatIs() {
        EclipseCheese x = Check.alp(TEN);
        CHECK.refused("no events", x, x.without(0), -100000, 1);
        EclipseCheese eclipse = Check.alp(TEN + ";eclipse 3 to 5;cloud 3 to 5;turner t sees from 5 to 6 hands 1 takes 1 huts 0");
        CHECK.fine("none is woken in 3", eclipse, eclipse.without(0), -3);
        CHECK.fine("the cloud behind it", eclipse, eclipse.without(1), 0);
    }

    /* "the set of CALLS made by which TOTAL is most". */
    private static void wakeOfNoCalls() {
        EclipseCheese x = Check.alp(shutters(2));
        CHECK.fine("wake", x, x.wake(), 0);
        CHECK.fine("total", x, x.wakeTotal(), 0);
        EclipseCheese dear = Check.alp(shutters(1) + turner(0, 18) + call(1, 2, 3));
        CHECK.fine("too dear", dear, dear.wake(), 0);
        EclipseCheese cheap = Check.alp(shutters(1) + turner(0, 18) + call(1, 2, 1));
        CHECK.fine("cheap", cheap, cheap.wake(), 1);
        CHECK.fine("its total", cheap, cheap.wakeTotal(), 1);
        cheap.call(0, true);
        CHECK.fine("made already", cheap, cheap.wake(), 1);
        CHECK.fine("its total", cheap, cheap.wakeTotal(), 1);
        EclipseCheese negative = Check.alp(shutters(1) + turner(0, 18) + call(1, 2, 99));
        negative.call(0, true);
        CHECK.fine("a dear one that is made", negative, negative.wake(), 0);
        CHECK.fine("its total is not the present one", negative, negative.wakeTotal(), 0);
        CHECK.fine("which is", negative, negative.total(), -97);
    }

    private static void wakeOfAllCalls() {
        String text = shutters(6) + turner(0, 18);
        for (int i = 0; i < 6; i++) {
            text += call(3 * i + 1, 2, 1);
        }
        EclipseCheese x = Check.alp(text);
        CHECK.fine("all six", x, x.wake(), 63);
        CHECK.fine("their total", x, x.wakeTotal(), 6);
        CHECK.same("none is made by that", x.calls(), 0);
    }

    /* "of like ones of fewest, then the least bits". */
    private static void wakeOfLikeOnes() {
        String text = shutters(1) + turner(0, 18);
        CHECK.same("none of like ones", Check.alp(text + call(1, 2, 2)).wake(), 0);
        CHECK.same("fewest, though of more bits", Check.alp(text + call(1, 1, 0) + call(2, 1, 0) + call(1, 2, 0)).wake(), 4);
        CHECK.same("least bits", Check.alp(text + call(5, 1, 0) + call(1, 2, 0) + call(1, 2, 0)).wake(), 2);
        CHECK.same("least bits of two", Check.alp(text + call(2, 1, 0) + call(1, 1, 0) + call(2, 1, 0) + call(1, 1, 0)).wake(), 3);
    }

    /* "the least number of turners who by themselves, with the CALLS made, miss nothing"; "-2 if all together miss". */
    private static void fewestFromNoneToFive() {
        for (int many = 0; many <= 5; many++) {
            String text = shutters(many);
            for (int i = 0; i < 5; i++) {
                text += turner(i, 3 * i + 1);
            }
            EclipseCheese x = Check.alp(text);
            CHECK.fine("fewest " + many, x, x.fewest(), many);
            CHECK.fine("they " + many, x, x.fewestBy(), (1 << many) - 1);
        }
        String six = shutters(6);
        for (int i = 0; i < 5; i++) {
            six += turner(i, 3 * i + 1);
        }
        EclipseCheese all = Check.alp(six + call(16, 2, 99));
        CHECK.fine("all miss the sixth", all, all.fewest(), -2);
        CHECK.fine("none", all, all.fewestBy(), -2);
        all.call(0, true);
        CHECK.fine("by a call all five", all, all.fewest(), 5);
        CHECK.fine("they", all, all.fewestBy(), 31);
        EclipseCheese noTurners = Check.alp(shutters(0));
        CHECK.fine("no turners, nothing to miss", noTurners, noTurners.fewest(), 0);
        CHECK.fine("no bits", noTurners, noTurners.fewestBy(), 0);
        EclipseCheese missed = Check.alp(shutters(1));
        CHECK.fine("no turners, something to miss", missed, missed.fewest(), -2);
        CHECK.fine("none such", missed, missed.fewestBy(), -2);
    }

    /* "of like ones the least bits". */
    private static void fewestOfLikeOnes() {
        EclipseCheese x = Check.alp(shutters(2) + turner(0, 9) + turner(1, 1) + turner(2, 4) + turner(3, 1) + turner(4, 4));
        CHECK.fine("two", x, x.fewest(), 2);
        CHECK.fine("the least bits", x, x.fewestBy(), 6);
        EclipseCheese one = Check.alp(shutters(2) + turner(0, 1) + turner(1, 4)
            + ";turner z blind from 0 to 20 hands 1 takes 1 huts 0;turner y blind from 0 to 20 hands 1 takes 1 huts 0");
        CHECK.fine("one", one, one.fewest(), 1);
        CHECK.fine("fewer ahead of least bits", one, one.fewestBy(), 4);
    }

    private static void fewestOfEightCheeses() {
        String text = "alp minutes 240 huts 4 prices 0,0,0,0,0;cloud 1 to 239;turner ta sees from 0 to 240 hands 7 takes 1 huts 0,1,2,3"
            + ";turner tb sees from 0 to 240 hands 1 takes 1 huts 3";
        for (int i = 0; i < 8; i++) {
            text += ";cheese c" + (char) ('a' + i) + " hut " + i % 4;
        }
        EclipseCheese x = Check.alp(text);
        CHECK.fine("the eighth needs another", x, x.fewest(), 2);
        CHECK.fine("both", x, x.fewestBy(), 3);
        CHECK.same("nothing is missed", Check.seen(x, 0), Check.THROWN);
        EclipseCheese eight = Check.alp(text.replace("hands 7", "hands 8"));
        CHECK.fine("eight hands", eight, eight.fewest(), 1);
        CHECK.fine("his", eight, eight.fewestBy(), 1);
        EclipseCheese six = Check.alp(text.replace("hands 7", "hands 6"));
        CHECK.fine("too few hands", six, six.fewest(), -2);
        CHECK.same("the seventh misses", Check.seen(six, 0), 6);
    }

    /* "Cheeses that a SLICE is of, as bits". */
    private static void fitsFromNoneToAllCheeses() {
        String text = "alp minutes 20 huts 2 prices 0,0,0,0,0;almanac 3,5;turner t almanac from 0 to 20 hands 8 takes 1 huts 0";
        for (int i = 0; i < 8; i++) {
            text += ";cheese c" + (char) ('a' + i) + " hut #";
        }
        CHECK.same("all", Check.alp(text.replace("#", "0") + ";slice 3,5").fits(0), 255);
        CHECK.same("none", Check.alp(text.replace("#", "1") + ";slice 3,5").fits(0), 0);
        CHECK.same("the last", Check.alp(text.replace("#", "1").replace("ch hut 1", "ch hut 0") + ";slice 3,5").fits(0), 128);
        EclipseCheese x = Check.alp(text.replace("#", "0") + ";slice 3,5");
        CHECK.refused("-1", x, x.fits(-1), -1, 1);
        CHECK.refused("1", x, x.fits(1), -1, 1);
    }

    /* "A SLICE is of a cheese whose VEINS are just its minutes". */
    private static void fitsJustItsMinutes() {
        String text = TEN + ";almanac 1,5,9;turner t almanac from 0 to 10 hands 8 takes 1 huts 0";
        EclipseCheese x = Check.alp(text + ";slice 1,5,9;slice 1,5;slice 1,5,8,9;slice 1,5,8");
        int[] due = {1, 0, 0, 0};
        for (int s = 0; s < 4; s++) {
            CHECK.fine("fits " + s, x, x.fits(s), due[s]);
        }
        EclipseCheese other = Check.alp(text + ";slice 5,9;slice 0,1,5,9;slice 0,5,9;slice 9");
        for (int s = 0; s < 4; s++) {
            CHECK.fine("fits not " + s, other, other.fits(s), 0);
        }
        CHECK.same("no veins, no slice", Check.alp(TEN + ";slice 0").fits(0), 0);
    }

    /* "the CALLS, of fewest, then the least bits, by which, made alone, it is of some cheese"; "-2 if there are none such". */
    private static void byNoneToAllCalls() {
        String text = "alp minutes 20 huts 1 prices 0,0,0,0,0;cheese a hut 0;almanac 1,4,7,10,13,16"
            + ";turner ta almanac from 18 to 19 hands 1 takes 1 huts 0";
        for (int i = 0; i < 6; i++) {
            text += call(3 * i + 1, 2, 9);
        }
        EclipseCheese x = Check.alp(text + ";slice 1,4,7,10,13,16;slice 16;slice 4,10;slice 4,11");
        CHECK.fine("all six", x, x.by(0), 63);
        CHECK.fine("the last", x, x.by(1), 32);
        CHECK.fine("two", x, x.by(2), 10);
        CHECK.fine("none such", x, x.by(3), -2);
        CHECK.same("none is made by that", x.calls(), 0);
        x.call(0, true);
        CHECK.fine("made alone", x, x.by(1), 32);
        CHECK.refused("slice 4", x, x.by(4), -1, 1);
        CHECK.refused("slice -1", x, x.by(-1), -1, 1);
        EclipseCheese none = Check.alp(TEN + ";almanac 3;turner t almanac from 0 to 10 hands 1 takes 1 huts 0;slice 3;slice 4");
        CHECK.fine("no calls are needed", none, none.by(0), 0);
        CHECK.fine("no calls would do", none, none.by(1), -2);
    }

    private static void byOfLikeOnes() {
        String text = "alp minutes 20 huts 1 prices 0,0,0,0,0;cheese a hut 0;almanac 1,4;slice 1,4"
            + ";turner ta almanac from 18 to 19 hands 1 takes 1 huts 0";
        CHECK.same("fewest, though of more bits", Check.alp(text + call(1, 1, 0) + call(4, 1, 0) + call(1, 9, 99)).by(0), 4);
        CHECK.same("least bits", Check.alp(text + call(9, 1, 0) + call(1, 9, 99) + call(1, 4, 0)).by(0), 2);
        CHECK.same("least bits of two", Check.alp(text + call(4, 1, 0) + call(9, 1, 0) + call(1, 1, 9) + call(4, 1, 0)).by(0), 5);
    }

    // ---- DRAWS

    /* "SEED becomes (75 times SEED and 74) mod 65,537": 872 is the last that doesn't wrap around, LAST_SEED stays. */
    private static void drawsOfSeeds() {
        int[] seeds = {0, 1, 11, 12, 872, 873, 874, 1746, 1747, 32768, 65534, 65535, LAST_SEED};
        for (int seed : seeds) {
            EclipseCheese x = Check.alp(TEN.replace("10", "240"));
            CHECK.fine("seed " + seed, x, x.seed(seed));
            int first = drawnFrom(seed);
            int second = drawnFrom(first);
            CHECK.fine("draw of " + seed, x, x.draw(), first % 240);
            CHECK.same("SEED behind " + seed, x.size(9), second);
            CHECK.same("from of " + seed, x.event(0, 2), first % 240);
            CHECK.same("to of " + seed, x.event(0, 3), Math.min(240, first % 240 + 1 + second % 20));
        }
        CHECK.same("no wrap", drawnFrom(872), 65474);
        CHECK.same("wrap", drawnFrom(873), 12);
        CHECK.same("the last stays", drawnFrom(LAST_SEED), LAST_SEED);
    }

    private static int seedWith(int minutes, int from, int lasts) {
        for (int seed = 0; seed <= LAST_SEED; seed++) {
            int first = drawnFrom(seed);
            if (first % minutes == from && 1 + drawnFrom(first) % 20 == lasts) {
                return seed;
            }
        }
        throw new IllegalStateException("no seed for " + minutes + " " + from + " " + lasts);
    }

    /* "from a DRAW mod all minutes, for 1 and a DRAW mod 20 minutes, to the end at most". */
    private static void drawnCloudsAtTheEdges() {
        int[][] due = {{10, 0, 1, 1}, {10, 0, 9, 9}, {10, 0, 10, 10}, {10, 0, 11, 10}, {10, 0, 20, 10}, {10, 9, 1, 10}, {10, 9, 2, 10},
            {10, 9, 20, 10}, {10, 8, 1, 9}, {10, 8, 2, 10}, {240, 0, 20, 20}, {240, 0, 1, 1}, {240, 219, 20, 239}, {240, 220, 20, 240},
            {240, 221, 20, 240}, {240, 239, 1, 240}, {240, 239, 20, 240}};
        for (int[] d : due) {
            EclipseCheese x = Check.alp("alp minutes " + d[0] + " huts 1 prices 50,1,2,3,4;cheese a hut 0");
            x.seed(seedWith(d[0], d[1], d[2]));
            String what = " of " + d[0] + " minutes from " + d[1] + " for " + d[2];
            CHECK.fine("draw" + what, x, x.draw(), d[1]);
            CHECK.same("from" + what, x.event(0, 2), d[1]);
            CHECK.same("to" + what, x.event(0, 3), d[3]);
            CHECK.same("it is a cloud" + what, x.event(0, 0), 0);
            CHECK.same("of no hut" + what, x.event(0, 1), -2);
            CHECK.same("dark at first" + what, x.sky(d[1]), 0);
            CHECK.same("dark at last" + what, x.sky(d[3] - 1), 0);
            CHECK.same("bright behind" + what, x.sky(d[3]), d[3] < d[0] ? 1 : -1);
        }
    }

    /* "NIGHTS (1 .. 8, of 0 .. 6 clouds). -100,000: 1 (no ALP); 2 (SEED, nights, clouds)". */
    private static void nightsAtTheEdges() {
        EclipseCheese x = Check.alp(TEN);
        CHECK.fine("1 night of 0", x, x.nights(0, 1, 0), 50);
        CHECK.fine("8 nights of 0", x, x.nights(LAST_SEED, 8, 0), 400);
        CHECK.refused("0 nights", x, x.nights(0, 0, 0), -100000, 2);
        CHECK.refused("9 nights", x, x.nights(0, 9, 0), -100000, 2);
        CHECK.refused("-1 clouds", x, x.nights(0, 1, -1), -100000, 2);
        CHECK.refused("7 clouds", x, x.nights(0, 1, 7), -100000, 2);
        CHECK.refused("SEED -1", x, x.nights(-1, 1, 0), -100000, 2);
        CHECK.refused("SEED 65537", x, x.nights(65537, 1, 0), -100000, 2);
        CHECK.refused("nights least", x, x.nights(0, Integer.MIN_VALUE, 0), -100000, 2);
        CHECK.refused("nights most", x, x.nights(0, Integer.MAX_VALUE, 0), -100000, 2);
        x.seed(5);
        for (int clouds = 1; clouds <= 6; clouds++) {
            x.draw();
            CHECK.fine("as drawn " + clouds, x, x.nights(5, 1, clouds), x.total());
        }
        CHECK.fine("without those that came", x, x.nights(0, 1, 0), 50);
        CHECK.same("which stay", x.size(3), 6);
    }

    /* "SEED as told, so many nights; in each .. so many clouds are drawn .. (SEED, clouds stay as they are)". */
    private static void nightsGoOnWithSeed() {
        String text = "alp minutes 40 huts 1 prices 99,1,2,3,4;cheese a hut 0;turner t sees from 10 to 30 hands 1 takes 2 huts 0";
        EclipseCheese x = Check.alp(text);
        int seed = 777;
        int sum = 0;
        for (int night = 1; night <= 8; night++) {
            EclipseCheese one = Check.alp(text);
            one.seed(seed);
            for (int i = 0; i < 6; i++) {
                one.draw();
            }
            seed = one.size(9);
            sum += one.total();
            CHECK.fine("nights " + night, x, x.nights(777, night, 6), sum);
        }
        CHECK.same("SEED stays", x.size(9), 0);
        CHECK.same("no clouds", x.size(3), 0);
        CHECK.same("no acts", x.size(10), 0);
    }

    // ---- ACTS

    /* "A CLOUD more from a minute to ahead of another one: true; false: .. 2 (as for EVENTS)". */
    private static void cloudsAtTheEdges() {
        int[][] fine = {{0, 1}, {0, 10}, {9, 10}, {8, 9}, {8, 10}};
        for (int[] f : fine) {
            EclipseCheese x = Check.alp(TEN);
            CHECK.fine("cloud " + f[0] + " to " + f[1], x, x.cloud(f[0], f[1]));
            CHECK.same("from", x.event(0, 2), f[0]);
            CHECK.same("to", x.event(0, 3), f[1]);
            for (int m = 0; m < 10; m++) {
                CHECK.same("sky " + m, x.sky(m), m >= f[0] && m < f[1] ? 0 : 1);
            }
        }
        int[][] wrong = {{-1, 0}, {-1, 1}, {0, 0}, {0, -1}, {0, 11}, {9, 9}, {9, 8}, {9, 11}, {10, 10}, {10, 11}, {10, 9},
            {Integer.MIN_VALUE, 5}, {5, Integer.MAX_VALUE}, {5, Integer.MIN_VALUE}, {Integer.MAX_VALUE, Integer.MIN_VALUE}};
        EclipseCheese x = Check.alp(TEN);
        for (int[] w : wrong) {
            CHECK.refused("cloud " + w[0] + " to " + w[1], x, x.cloud(w[0], w[1]), 2);
        }
        CHECK.same("none came", x.size(3), 0);
        CHECK.same("no acts", x.size(10), 0);
    }

    /* "MORE clouds: up to 6, behind the EVENTS"; "3 (6 came)". */
    private static void cloudsUpToSix() {
        EclipseCheese hand = Check.alp(TEN + ";bolt 3");
        for (int i = 0; i < 6; i++) {
            CHECK.fine("cloud " + i, hand, hand.cloud(i, i + 1));
            CHECK.same("came", hand.size(3), i + 1);
            CHECK.same("behind the told one", hand.event(i + 1, 2), i);
        }
        CHECK.refused("a seventh by hand", hand, hand.cloud(7, 8), 3);
        CHECK.refused("a seventh by a draw", hand, hand.draw(), -1, 3);
        CHECK.same("bright", hand.sky(7), 1);
        EclipseCheese drawn = Check.alp(TEN);
        for (int i = 0; i < 6; i++) {
            CHECK.same("draw " + i, drawn.draw() >= 0, true);
        }
        int seed = drawn.size(9);
        CHECK.refused("a seventh by a draw", drawn, drawn.draw(), -1, 3);
        CHECK.refused("a seventh by hand", drawn, drawn.cloud(0, 1), 3);
        CHECK.same("SEED stays", drawn.size(9), seed);
        CHECK.same("six acts", drawn.size(10), 6);
        String full = TEN + ";bolt 3".repeat(14);
        EclipseCheese told = Check.alp(full);
        CHECK.fine("told ones take no room", told, told.cloud(0, 1));
    }

    private static EclipseCheese clouded(int many) {
        EclipseCheese x = Check.alp(TEN);
        for (int i = 0; i < many; i++) {
            x.cloud(i, i + 1);
        }
        return x;
    }

    private static void roomForCloudsAgain() {
        EclipseCheese lifted = clouded(6);
        lifted.lift();
        CHECK.fine("behind a lift", lifted, lifted.cloud(8, 9));
        CHECK.refused("but one", lifted, lifted.cloud(8, 9), 3);
        EclipseCheese undone = clouded(6);
        undone.undo();
        CHECK.same("behind an undo", undone.draw() >= 0, true);
        CHECK.refused("but one", undone, undone.draw(), -1, 3);
        EclipseCheese back = clouded(3);
        back.mark();
        back.cloud(5, 6);
        back.cloud(5, 6);
        back.cloud(5, 6);
        back.back(0);
        for (int i = 0; i < 3; i++) {
            CHECK.fine("behind a back", back, back.cloud(7, 8));
        }
        CHECK.refused("but three", back, back.cloud(7, 8), 3);
        EclipseCheese anew = clouded(6);
        Check.tell(anew, TEN);
        CHECK.fine("behind an alp", anew, anew.cloud(7, 8));
    }

    /* "LIFTED (the latest that came)"; "false: 6". */
    private static void liftsTheLatest() {
        EclipseCheese x = clouded(6);
        for (int i = 5; i >= 0; i--) {
            CHECK.same("dark " + i, x.sky(i), 0);
            CHECK.fine("lift " + i, x, x.lift());
            CHECK.same("bright " + i, x.sky(i), 1);
            CHECK.same("left " + i, x.size(3), i);
        }
        CHECK.refused("none is left", x, x.lift(), 6);
        CHECK.same("twelve acts", x.size(10), 12);
        EclipseCheese told = Check.alp(TEN + ";cloud 3 to 5");
        CHECK.refused("none but a told one", told, told.lift(), 6);
        CHECK.same("which stays", told.sky(3), 0);
        told.draw();
        CHECK.fine("a drawn one", told, told.lift());
        CHECK.same("SEED stays as it was drawn", told.size(9), drawnFrom(drawnFrom(0)));
    }

    /* "A CALL is made, or not any more: true; false: 1; 5 (it is so already)"; "CALLS made, as bits". */
    private static void callsByBits() {
        EclipseCheese x = Check.alp(TEN + ";turner t sees from 0 to 1 hands 1 takes 1 huts 0" + ";call t at 1 for 1 costs 1".repeat(6));
        int bits = 0;
        for (int i : new int[] {5, 0, 3, 1, 4, 2}) {
            CHECK.refused("not made " + i, x, x.call(i, false), 5);
            CHECK.fine("made " + i, x, x.call(i, true));
            bits |= 1 << i;
            CHECK.fine("calls", x, x.calls(), bits);
            CHECK.refused("made already " + i, x, x.call(i, true), 5);
        }
        CHECK.fine("all", x, x.calls(), 63);
        CHECK.fine("the last not any more", x, x.call(5, false));
        CHECK.fine("the first not any more", x, x.call(0, false));
        CHECK.fine("calls", x, x.calls(), 30);
        for (int i : new int[] {-1, 6, 31, 32, 37, Integer.MIN_VALUE, Integer.MAX_VALUE}) {
            CHECK.refused("none such " + i, x, x.call(i, true), 1);
            CHECK.refused("none such " + i, x, x.call(i, false), 1);
        }
        CHECK.same("acts", x.size(10), 8);
    }

    /* "SEED (no ACT): true; false: .. 2 (0 .. 65,536)". */
    private static void seedAtTheEdges() {
        EclipseCheese x = Check.alp(TEN);
        for (int seed : new int[] {LAST_SEED, 0, 1, LAST_SEED - 1}) {
            CHECK.fine("seed " + seed, x, x.seed(seed));
            CHECK.same("SEED", x.size(9), seed);
        }
        for (int seed : new int[] {-1, 65537, Integer.MIN_VALUE, Integer.MAX_VALUE}) {
            CHECK.refused("seed " + seed, x, x.seed(seed), 2);
            CHECK.same("SEED stays", x.size(9), LAST_SEED - 1);
        }
        CHECK.same("no act", x.size(10), 0);
    }

    private static boolean act(EclipseCheese x, int sort) {
        switch (sort) {
            case 0:
                return x.call(0, x.calls() == 0);
            case 1:
                return x.size(3) < 6 ? x.cloud(1, 2) : x.lift();
            case 2:
                return x.size(3) < 6 ? x.draw() >= 0 : x.lift();
            default:
                return x.size(3) > 0 ? x.lift() : x.cloud(3, 4);
        }
    }

    /* "(12 are kept)". */
    private static void twelveActsOfEachSort() {
        for (int sort = 0; sort < 4; sort++) {
            EclipseCheese x = Check.alp(TEN + ";turner t sees from 0 to 1 hands 1 takes 1 huts 0;call t at 1 for 1 costs 1");
            for (int i = 1; i <= 15; i++) {
                x.seed(i);
                CHECK.same("act " + i, act(x, sort), true);
                CHECK.same("kept " + i, x.size(10), Math.min(i, 12));
            }
            for (int i = 15; i > 3; i--) {
                CHECK.fine("undo " + i, x, x.undo());
                CHECK.same("SEED ahead of it", x.size(9), i);
                CHECK.same("kept " + i, x.size(10), i - 4);
            }
            CHECK.refused("no thirteenth", x, x.undo(), 6);
            CHECK.same("SEED stays", x.size(9), 4);
        }
    }

    /* "UNDO: CALLS, clouds that came, SEED are as ahead of the latest". */
    private static void undoesEachAct() {
        EclipseCheese x = Check.alp(TEN + ";turner t sees from 0 to 1 hands 1 takes 1 huts 0;call t at 1 for 1 costs 1");
        CHECK.refused("nothing", x, x.undo(), 6);
        x.cloud(2, 5);
        x.cloud(6, 8);
        x.seed(41);
        x.lift();
        x.undo();
        state("a lift", x, 0, 2, 41, 2);
        CHECK.same("from", x.event(1, 2), 6);
        CHECK.same("to", x.event(1, 3), 8);
        x.lift();
        x.cloud(0, 1);
        x.undo();
        x.undo();
        CHECK.same("the lifted one, not the later one", x.event(1, 2), 6);
        x.draw();
        x.undo();
        state("a draw", x, 0, 2, 41, 2);
        x.call(0, true);
        x.seed(42);
        x.call(0, false);
        x.undo();
        state("a call not any more", x, 1, 2, 42, 3);
        x.undo();
        state("a call", x, 0, 2, 41, 2);
        x.undo();
        state("a cloud", x, 0, 1, 0, 1);
        x.undo();
        state("the first", x, 0, 0, 0, 0);
        CHECK.refused("nothing more", x, x.undo(), 6);
    }

    private static void state(String what, EclipseCheese x, int calls, int clouds, int seed, int acts) {
        CHECK.same(what + " calls", x.calls(), calls);
        CHECK.same(what + " clouds", x.size(3), clouds);
        CHECK.same(what + " SEED", x.size(9), seed);
        CHECK.same(what + " acts", x.size(10), acts);
    }

    private static void actsBehindAnUndo() {
        EclipseCheese x = Check.alp(TEN);
        for (int i = 0; i < 14; i++) {
            CHECK.same("act", act(x, 3), true);
        }
        x.undo();
        x.undo();
        CHECK.same("ten", x.size(10), 10);
        x.seed(9);
        for (int i = 0; i < 3; i++) {
            CHECK.same("act", act(x, 3), true);
        }
        CHECK.same("twelve", x.size(10), 12);
        for (int i = 0; i < 3; i++) {
            CHECK.fine("undo", x, x.undo());
            CHECK.same("SEED", x.size(9), 9);
        }
        CHECK.fine("undo", x, x.undo());
        CHECK.same("SEED ahead of that", x.size(9), 0);
    }

    /* "MARKS: up to 3"; "its number. NONE: 1 (no ALP); 3". */
    private static void marksUpToThree() {
        EclipseCheese x = Check.alp(TEN);
        CHECK.refused("none yet", x, x.back(0), 1);
        for (int i = 0; i < 3; i++) {
            CHECK.fine("mark " + i, x, x.mark(), i);
            CHECK.same("marks", x.size(11), i + 1);
            CHECK.fine("back " + i, x, x.back(i));
            CHECK.refused("back " + (i + 1), x, x.back(i + 1), 1);
        }
        CHECK.refused("a fourth", x, x.mark(), -1, 3);
        CHECK.same("three", x.size(11), 3);
        CHECK.refused("back -1", x, x.back(-1), 1);
        CHECK.refused("back least", x, x.back(Integer.MIN_VALUE), 1);
        CHECK.refused("back most", x, x.back(Integer.MAX_VALUE), 1);
        x.back(1);
        CHECK.refused("no room by going back", x, x.mark(), -1, 3);
        CHECK.same("a mark is no act", x.size(10), 0);
    }

    /* "each keeps these": CALLS, clouds that came, SEED; "all MARKS stay". */
    private static void marksKeepAll() {
        EclipseCheese x = Check.alp(TEN + ";turner t sees from 0 to 1 hands 1 takes 1 huts 0" + ";call t at 1 for 1 costs 1".repeat(6));
        x.mark();
        for (int i = 0; i < 6; i++) {
            x.call(i, true);
            x.cloud(i, i + 2);
        }
        x.seed(LAST_SEED);
        x.mark();
        x.call(3, false);
        x.lift();
        x.lift();
        x.cloud(9, 10);
        x.seed(1);
        x.mark();
        for (int turn = 0; turn < 2; turn++) {
            x.back(1);
            state("full", x, 63, 6, LAST_SEED, 0);
            for (int i = 0; i < 6; i++) {
                CHECK.same("from " + i, x.event(i, 2), i);
                CHECK.same("to " + i, x.event(i, 3), i + 2);
            }
            x.lift();
            x.call(0, false);
            x.back(0);
            state("empty", x, 0, 0, 0, 0);
            x.cloud(7, 8);
            x.call(5, true);
            x.back(2);
            state("between", x, 63 - 8, 5, 1, 0);
            CHECK.same("from", x.event(4, 2), 9);
            x.lift();
            CHECK.same("marks stay", x.size(11), 3);
        }
    }

    /* "gone back to, nothing can be undone". */
    private static void backLeavesNothingToUndo() {
        EclipseCheese x = clouded(2);
        x.mark();
        CHECK.same("a mark leaves acts", x.size(10), 2);
        CHECK.fine("back", x, x.back(0));
        CHECK.same("none", x.size(10), 0);
        CHECK.refused("undo", x, x.undo(), 6);
        x.cloud(5, 6);
        CHECK.fine("what is done then can be", x, x.undo());
        CHECK.same("clouds", x.size(3), 2);
        CHECK.refused("but that alone", x, x.undo(), 6);
        x.cloud(5, 6);
        CHECK.refused("a refused back", x, x.back(1), 1);
        CHECK.same("leaves acts", x.size(10), 1);
    }

    /* "(no CALLS made, no clouds more, SEED 0, nothing to undo, no MARKS)". */
    private static void anewThereIsNothing() {
        String text = TEN + ";turner t sees from 0 to 1 hands 1 takes 1 huts 0;call t at 1 for 1 costs 1";
        EclipseCheese x = Check.alp(text);
        x.call(0, true);
        x.cloud(1, 2);
        x.seed(5);
        x.mark();
        CHECK.same("a faulty one", Check.tell(x, text + ";"), -1);
        state("all stays", x, 1, 1, 5, 2);
        CHECK.same("marks stay", x.size(11), 1);
        CHECK.same("a sound one", Check.tell(x, text), 1);
        state("anew", x, 0, 0, 0, 0);
        CHECK.same("no marks", x.size(11), 0);
        CHECK.refused("no mark", x, x.back(0), 1);
        CHECK.refused("nothing to undo", x, x.undo(), 6);
        CHECK.refused("nothing to lift", x, x.lift(), 6);
        CHECK.fine("the first mark again", x, x.mark(), 0);
        CHECK.fine("bright", x, x.sky(1), 1);
    }

    // ---- what is seen

    /* "Of an EVENT (told ones, then clouds that came)"; "NONE: 1". */
    private static void eventsToTheLast() {
        EclipseCheese x = Check.alp(TEN + ";bolt 9".repeat(14));
        for (int i = 0; i < 6; i++) {
            CHECK.refused("not yet", x, x.event(14 + i, 0), -1, 1);
            x.cloud(i, i + 3);
        }
        CHECK.fine("the last told", x, x.event(13, 0), 4);
        CHECK.fine("its hut", x, x.event(13, 1), -2);
        CHECK.fine("its end", x, x.event(13, 3), 10);
        CHECK.fine("the first that came", x, x.event(14, 0), 0);
        CHECK.fine("the last that came", x, x.event(19, 2), 5);
        CHECK.fine("its end", x, x.event(19, 3), 8);
        CHECK.refused("no more", x, x.event(20, 0), -1, 1);
        CHECK.refused("-1", x, x.event(-1, 0), -1, 1);
        CHECK.refused("what -1", x, x.event(19, -1), -1, 1);
        CHECK.refused("what 4", x, x.event(19, 4), -1, 1);
        CHECK.refused("what 4 of a told one", x, x.event(0, 4), -1, 1);
        EclipseCheese none = Check.alp(TEN);
        CHECK.refused("no events", none, none.event(0, 0), -1, 1);
        EclipseCheese lamp = Check.alp(TEN + ";lamp 0 0 to 10;shutter 0 0 to 1");
        CHECK.fine("kind of a lamp", lamp, lamp.event(0, 0), 2);
        CHECK.fine("its hut", lamp, lamp.event(0, 1), 0);
        CHECK.fine("kind of a shutter", lamp, lamp.event(1, 0), 3);
        CHECK.fine("its hut", lamp, lamp.event(1, 1), 0);
    }

    /* "The i-th cheese that MISSED something. NoSuchElementException if there is none such". */
    private static void ledFromNoneToAll() {
        EclipseCheese none = Check.alp(TEN);
        CHECK.same("nothing missed", Check.seen(none, 0), Check.THROWN);
        String text = "alp minutes 10 huts 2 prices 0,0,0,0,0;cloud 3 to 10";
        for (int i = 0; i < 8; i++) {
            text += ";cheese c" + (char) ('a' + i) + " hut " + i % 2;
        }
        EclipseCheese all = Check.alp(text);
        for (int i = 0; i < 8; i++) {
            CHECK.same("missed " + i, Check.seen(all, i), i);
        }
        EclipseCheese odd = Check.alp(text + ";turner t sees from 0 to 10 hands 8 takes 1 huts 0");
        for (int i = 0; i < 4; i++) {
            CHECK.same("missed in hut 1 " + i, Check.seen(odd, i), 2 * i + 1);
        }
        for (int i : new int[] {-1, 4, 8, Integer.MIN_VALUE, Integer.MAX_VALUE}) {
            CHECK.same("none such " + i, Check.seen(odd, i), Check.THROWN);
        }
        odd.cloud(0, 1);
        odd.cloud(1, 2);
        CHECK.same("as the sky is now", Check.seen(odd, 3), 7);
    }

    /* "NONE for others; 0 for what there isn't". */
    private static void sizesAtTheEdges() {
        EclipseCheese none = new EclipseCheese();
        EclipseCheese bare = Check.alp(TEN);
        int[] ofBare = {10, 1, 0, 0, 1, 0, 0, 0, 0, 0, 0, 0, 0};
        for (int what = 0; what <= 12; what++) {
            CHECK.same("no ALP " + what, none.size(what), 0);
            CHECK.same("bare " + what, bare.size(what), ofBare[what]);
        }
        for (int what : new int[] {-1, 13, Integer.MIN_VALUE, Integer.MAX_VALUE}) {
            CHECK.same("others, no ALP " + what, none.size(what), -1);
            CHECK.same("others " + what, bare.size(what), -1);
        }
        none.feed(0, 0, 0, 0, 0);
        CHECK.same("a TAPE without an ALP", none.size(12), 20);
    }
}

/**
 * The edges of Terms I, a method for each sentence: of every WHOLE the last values that are taken and the first that
 * are refused, with the place; of every LINE the last for which there is room and the one more.
 */
public final class TextEdgeTest {
    private static final Check CHECK = new Check("TextEdgeTest");
    private static final String HEAD = "alp minutes 20 huts 3 prices 50,1,2,3,4;";
    private static final String CHEESE = "cheese a hut 0";
    private static final String TURNER = ";turner t sees from 0 to 20 hands 1 takes 1 huts 0";
    private static final String EIGHT = "0,1,2,3,4,5,6,7";

    public static void main(String[] args) {
        tapeHasRoomForNineHundred();
        alpTakesFromNoneToAllOfTheTape();
        blanksMeanNothing();
        wordsHaveOneToEightLetters();
        wholesHaveOneToThreeDigits();
        bytesThatBeginNoToken();
        minutesAndHuts();
        prices();
        spansOfEvents();
        hutsOfEvents();
        bolts();
        cheeses();
        almanacMinutes();
        sliceMinutes();
        turnerMinutes();
        hands();
        takes();
        turnerHuts();
        callMinutes();
        callLasts();
        callCosts();
        boundsAreOfTheirOwnAlp();
        eventsUpToFourteen();
        cheesesUpToEight();
        turnersUpToFive();
        callsUpToSix();
        slicesUpToFour();
        almanacOnce();
        alpOnce();
        minutesOfListsUpToEight();
        oneFullSortLeavesRoomForOthers();
        aNinthMinute();
        alpAheadOfAllOthers();
        noCheese();
        theEndAndItsPlace();
        eachTokenLeftOut();
        eachTokenTwice();
        leastNumberOfOnePlace();
        firstFromTheLeft();
        CHECK.end();
    }

    // ---- what the methods share

    private static String cheeseNames(int many) {
        StringBuilder text = new StringBuilder();
        for (int i = 0; i < many; i++) {
            text.append(";cheese c").append((char) ('a' + i)).append(" hut 0");
        }
        return text.substring(1);
    }

    // ---- THE TAPE

    /* "THE TAPE has 900 bytes"; "NONE, and none comes, if there would be more than 900". */
    private static void tapeHasRoomForNineHundred() {
        EclipseCheese x = new EclipseCheese();
        for (int i = 1; i <= 44; i++) {
            x.feed(0x20202020, 0x20202020, 0x20202020, 0x20202020, 0x20202020);
        }
        CHECK.same("880", x.size(12), 880);
        CHECK.same("the last twenty", x.feed(0x20202020, 0x20202020, 0x20202020, 0x20202020, 0x20202061), 900);
        CHECK.same("no more", x.feed(0x62626262, 0x62626262, 0x62626262, 0x62626262, 0x62626262), -1);
        CHECK.same("none came", x.size(12), 900);
        CHECK.refused("901 of 900", x, x.alp(901), -1, 2);
        CHECK.same("stays full", x.feed(0, 0, 0, 0, 0), -1);
        CHECK.refused("900 of 900", x, x.alp(900), -1, 4);
        CHECK.same("form", x.fault(), 1);
        CHECK.same("at the last byte, which stays what it was", x.where(), 899);
        CHECK.same("empty then", x.size(12), 0);
        CHECK.same("room again", x.feed(0, 0, 0, 0, 0), 20);
    }

    /* "The first n bytes of THE TAPE (it is empty then)"; "NONE: 2 (THE TAPE stays)". */
    private static void alpTakesFromNoneToAllOfTheTape() {
        EclipseCheese x = new EclipseCheese();
        CHECK.refused("1 of none", x, x.alp(1), -1, 2);
        CHECK.refused("-1 of none", x, x.alp(-1), -1, 2);
        CHECK.refused("0 of none", x, x.alp(0), -1, 4);
        String text = HEAD + CHEESE + " ".repeat(6);
        CHECK.same("60 bytes", text.length(), 60);
        Check.feed(x, text);
        CHECK.refused("-1", x, x.alp(-1), -1, 2);
        CHECK.refused("least", x, x.alp(Integer.MIN_VALUE), -1, 2);
        CHECK.refused("61 of 60", x, x.alp(61), -1, 2);
        CHECK.refused("most", x, x.alp(Integer.MAX_VALUE), -1, 2);
        CHECK.same("the tape stays", x.size(12), 60);
        CHECK.fine("60 of 60", x, x.alp(60), 1);
        CHECK.same("it is empty", x.size(12), 0);
        CHECK.refused("1 of none again", x, x.alp(1), -1, 2);
        Check.feed(x, text);
        CHECK.refused("0 of 60", x, x.alp(0), -1, 4);
        CHECK.same("empty by a FAULT, too", x.size(12), 0);
        CHECK.same("the ALP stays", x.size(4), 1);
        Check.feed(x, text);
        CHECK.fine("54 of 60", x, x.alp(54), 1);
        CHECK.same("what is behind is gone, too", x.size(12), 0);
        Check.feed(x, text);
        CHECK.refused("53 of 60", x, x.alp(53), -1, 4);
        CHECK.same("the end is there", x.where(), 53);
    }

    // ---- TOKENS

    /* "blanks, 32, part TOKENS and mean nothing else". */
    private static void blanksMeanNothing() {
        CHECK.sound(HEAD + CHEESE, 1);
        CHECK.sound("   " + (HEAD + CHEESE).replace(",", " , ").replace(";", "   ;   ").replace(" ", "  ") + "    ", 1);
        CHECK.sound((HEAD + CHEESE).replace("minutes ", "minutes").replace(" huts ", "huts").replace(" prices ", "prices"), 1);
        CHECK.fault(1, "^a lp minutes 20 huts 3 prices 1,2,3,4,5");
        CHECK.fault(1, "alp minutes 20 ^0 huts 3 prices 1,2,3,4,5");
        CHECK.fault(1, "^alpminut es 20");
    }

    /* "WORDS of 1 to 8 small letters that stand together". */
    private static void wordsHaveOneToEightLetters() {
        CHECK.sound(HEAD + "cheese z hut 0", 1);
        CHECK.sound(HEAD + "cheese zzzzzzzz hut 0", 1);
        CHECK.fault(1, HEAD + "cheese ^zzzzzzzzz hut 0");
        CHECK.fault(1, HEAD + "cheese ^" + "z".repeat(13) + " hut 0");
        CHECK.fault(1, HEAD + "cheese ^" + "z".repeat(64) + " hut 0");
        CHECK.sound(HEAD + "cheese zzzzzzzy hut 0;cheese zzzzzzzz hut 0;cheese yzzzzzzz hut 0;cheese zzzzzzz hut 0", 4);
        CHECK.fault(3, HEAD + "cheese zzzzzzzy hut 0;cheese zzzzzzzz hut 0;cheese ^zzzzzzzy hut 0");
        CHECK.fault(1, HEAD + "cheese ^A hut 0");
        CHECK.fault(1, HEAD + "cheese a^Z hut 0");
    }

    /* "WHOLES of 1 to 3 digits that do". */
    private static void wholesHaveOneToThreeDigits() {
        CHECK.sound(HEAD.replace("50", "0") + CHEESE, 1);
        CHECK.sound(HEAD.replace("50", "099") + CHEESE, 1);
        CHECK.fault(1, HEAD.replace("50", "^0099") + CHEESE);
        CHECK.fault(1, HEAD.replace("50", "^4294967296") + CHEESE);
        CHECK.same("099", Check.alp(HEAD.replace("50", "099") + CHEESE).total(), 99);
        CHECK.same("000", Check.alp(HEAD.replace("50", "000") + CHEESE).total(), 0);
    }

    /* "FORM: the first byte that begins no TOKEN": those at the edges of letters, digits, blank, ; and , */
    private static void bytesThatBeginNoToken() {
        for (int sign : new int[] {0, 9, 10, 31, 33, 43, 45, 46, 47, 58, 60, 64, 65, 90, 91, 95, 96, 123, 127, 128, 160, 255}) {
            String byteAsText = String.valueOf((char) sign);
            CHECK.fault(1, HEAD + CHEESE + "^" + byteAsText);
            CHECK.fault(1, HEAD + CHEESE + ";bolt ^" + byteAsText);
            CHECK.fault(1, "^" + byteAsText + HEAD);
        }
        CHECK.sound(HEAD + "cheese az hut 0;bolt 09;bolt 10", 1);
    }

    // ---- LINES: bounds

    /* "alp minutes WHOLE huts WHOLE ..: 10 .. 240; 1 .. 4". */
    private static void minutesAndHuts() {
        CHECK.bounds("alp minutes # huts 1 prices 1,1,1,1,1;cheese a hut 0", 10, 240, x -> x.size(0));
        CHECK.bounds("alp minutes 10 huts # prices 1,1,1,1,1;cheese a hut 0", 1, 4, x -> x.size(1));
        EclipseCheese least = Check.alp("alp minutes 10 huts 1 prices 1,1,1,1,1;cheese a hut 0");
        CHECK.fine("minute 9", least, least.sky(9), 1);
        CHECK.refused("minute 10", least, least.sky(10), -1, 2);
        EclipseCheese most = Check.alp("alp minutes 240 huts 4 prices 1,1,1,1,1;cheese a hut 3;cloud 239 to 240");
        CHECK.fine("minute 239", most, most.sky(239), 0);
        CHECK.refused("minute 240", most, most.sky(240), -1, 2);
        CHECK.fine("hut 3 in minute 239", most, most.light(3, 239, false), 0);
        CHECK.refused("hut 4", most, most.light(4, 239, false), -1, 1);
    }

    /* "base, vein, mite, crack, false, 0 .. 99 each". */
    private static void prices() {
        String night = ";cheese a hut 0;cloud 5 to 20;almanac 5,7;turner t almanac from 0 to 20 hands 1 takes 1 huts 0";
        CHECK.bounds("alp minutes 20 huts 1 prices #,0,0,0,0;cheese a hut 0", 0, 99, EclipseCheese::total);
        CHECK.bounds("alp minutes 20 huts 1 prices 99,#,99,99,99;cheese a hut 0;cloud 5 to 20"
            + ";turner t sees from 0 to 20 hands 1 takes 1 huts 0", 0, 99, x -> x.total() - 99);
        CHECK.bounds("alp minutes 20 huts 1 prices 99,99,#,99,99;cheese a hut 0;cloud 5 to 20", 0, 99, x -> 99 - x.total());
        CHECK.bounds("alp minutes 20 huts 1 prices 99,99,99,#,99;cheese a hut 0;bolt 5", 0, 99, x -> 99 - x.total());
        CHECK.bounds("alp minutes 20 huts 1 prices 99,0,99,99,#" + night, 0, 99, x -> 99 - x.total());
    }

    /* "minutes from the first to ahead of the second, which is above it and no more than there are". */
    private static void spansOfEvents() {
        for (String sort : new String[] {"cloud ", "eclipse ", "lamp 1 ", "shutter 2 "}) {
            CHECK.bounds(HEAD + CHEESE + ";" + sort + "# to 20", 0, 19, x -> x.event(0, 2));
            CHECK.bounds(HEAD + CHEESE + ";" + sort + "0 to #", 1, 20, x -> x.event(0, 3));
            CHECK.bounds(HEAD + CHEESE + ";" + sort + "17 to #", 18, 20, x -> x.event(0, 3));
            CHECK.fault(4, HEAD + CHEESE + ";" + sort + "17 to ^17");
            CHECK.fault(4, HEAD + CHEESE + ";" + sort + "17 to ^3");
            CHECK.fault(4, HEAD + CHEESE + ";" + sort + "^20 to 20");
        }
    }

    /* "the hut first, if there is one"; "Huts have numbers from 0 on". */
    private static void hutsOfEvents() {
        CHECK.bounds(HEAD + CHEESE + ";lamp # 1 to 2", 0, 2, x -> x.event(0, 1));
        CHECK.bounds(HEAD + CHEESE + ";shutter # 1 to 2", 0, 2, x -> x.event(0, 1));
        CHECK.fault(1, HEAD + CHEESE + ";cloud 0 ^1 to 2");
        CHECK.fault(1, HEAD + CHEESE + ";eclipse 0 ^1 to 2");
        CHECK.fault(1, HEAD + CHEESE + ";bolt 0 ^1");
        CHECK.fault(1, HEAD + CHEESE + ";lamp 1 ^to 2");
    }

    private static void bolts() {
        CHECK.bounds(HEAD + CHEESE + ";bolt #", 0, 19, x -> x.event(0, 2));
        CHECK.bounds(HEAD + CHEESE + ";bolt #", 0, 19, x -> x.event(0, 3) - 1);
    }

    private static void cheeses() {
        CHECK.bounds(HEAD + "cheese a hut #", 0, 2, x -> x.cheese(0, 0));
        CHECK.same("up", Check.alp(HEAD + CHEESE).up(0, 0), 1);
        CHECK.same("perhaps down", Check.alp(HEAD + CHEESE + " down").up(0, 0), 0);
        EclipseCheese each = Check.alp(HEAD + "cheese a hut 0 down;cheese b hut 0;cheese c hut 0 down");
        CHECK.same("down is of its own cheese", each.up(0, 0) + 2 * each.up(1, 0) + 4 * each.up(2, 0), 2);
    }

    private static int firstNoticed(EclipseCheese x, int from) {
        for (int m = from; m < x.size(0); m++) {
            if (x.notices(0, 0, m) == 1) {
                return m;
            }
        }
        return -1;
    }

    /* "almanac WHOLE {, WHOLE} (minutes, rising; ..)"; "a minute not above the one ahead; at it". */
    private static void almanacMinutes() {
        String turner = ";turner t almanac from 0 to 20 hands 1 takes 1 huts 0";
        CHECK.bounds(HEAD + CHEESE + turner + ";almanac #", 0, 19, x -> firstNoticed(x, 0));
        CHECK.bounds(HEAD + CHEESE + turner + ";almanac 7,#", 8, 19, x -> firstNoticed(x, 8));
        CHECK.bounds(HEAD + CHEESE + turner + ";almanac 0,7,16,#", 17, 19, x -> firstNoticed(x, 17));
        CHECK.fault(4, HEAD + "almanac 7,^7");
        CHECK.fault(4, HEAD + "almanac 19,^19");
        CHECK.fault(4, HEAD + "almanac 0,^0");
    }

    /* "slice WHOLE {, WHOLE} (minutes, rising; ..)". */
    private static void sliceMinutes() {
        String text = HEAD + CHEESE + ";turner t almanac from 0 to 20 hands 1 takes 1 huts 0";
        for (int m = 1; m < 20; m++) {
            EclipseCheese x = Check.alp(text + ";almanac " + m + ";slice " + m + ";slice " + (m - 1));
            CHECK.same("slice " + m, x.fits(0), 1);
            CHECK.same("slice ahead of " + m, x.fits(1), 0);
        }
        CHECK.bounds(HEAD + CHEESE + ";bolt 0;slice #", 0, 19, null);
        CHECK.bounds(HEAD + CHEESE + ";slice 7,#", 8, 19, null);
        CHECK.fault(4, HEAD + "slice 7,^7");
        CHECK.fault(4, HEAD + "slice 19,^19");
    }

    private static int firstAwake(EclipseCheese x) {
        for (int m = 0; m < x.size(0); m++) {
            if (x.awake(0, m) == 1) {
                return m;
            }
        }
        return -1;
    }

    private static int endOfAwake(EclipseCheese x) {
        for (int m = firstAwake(x); m < x.size(0); m++) {
            if (x.awake(0, m) == 0) {
                return m;
            }
        }
        return x.size(0);
    }

    /* "from WHOLE to WHOLE (.. minutes as above)". */
    private static void turnerMinutes() {
        for (String kind : new String[] {"sees", "blind", "deaf", "almanac"}) {
            String turner = HEAD + CHEESE + ";turner t " + kind;
            CHECK.bounds(turner + " from # to 20 hands 1 takes 1 huts 0", 0, 19, TextEdgeTest::firstAwake);
            CHECK.bounds(turner + " from 0 to # hands 1 takes 1 huts 0", 1, 20, TextEdgeTest::endOfAwake);
            CHECK.bounds(turner + " from 17 to # hands 1 takes 1 huts 0", 18, 20, TextEdgeTest::endOfAwake);
        }
    }

    /* "hands WHOLE (.. 1 .. 8)". */
    private static void hands() {
        String eight = HEAD + cheeseNames(8) + ";cloud 5 to 20;turner t sees from 0 to 20 hands ";
        for (int hands = 1; hands <= 8; hands++) {
            CHECK.same("hands " + hands, Check.alp(eight + hands + " takes 1 huts 0").work(0, 0), hands);
        }
        CHECK.fault(4, eight + "^0 takes 1 huts 0");
        CHECK.fault(4, eight + "^9 takes 1 huts 0");
        CHECK.fault(4, eight + "^10 takes 1 huts 0");
    }

    /* "takes WHOLE (.. 1 .. 20)": the hut CHANGES in every minute from 1 to 25. */
    private static void takes() {
        StringBuilder text = new StringBuilder("alp minutes 40 huts 1 prices 1,1,1,1,1;cheese a hut 0;cloud 1 to 40");
        for (int m = 2; m <= 24; m += 2) {
            text.append(";bolt ").append(m);
        }
        CHECK.bounds(text + ";turner t sees from 0 to 40 hands 1 takes # huts 0", 1, 20, x -> x.vein(0, 1) - x.vein(0, 0));
    }

    /* "huts WHOLE {, WHOLE} (.. unlike huts ..)". */
    private static void turnerHuts() {
        String turner = HEAD + CHEESE + ";turner t sees from 0 to 20 hands 1 takes 1 huts ";
        CHECK.sound(turner + "0", 1);
        CHECK.sound(turner + "2", 1);
        CHECK.sound(turner + "2,0,1", 1);
        CHECK.fault(4, turner + "^3");
        CHECK.fault(4, turner + "0,1,2,^3");
        CHECK.fault(3, turner + "0,^0");
        CHECK.fault(3, turner + "2,1,^2");
        CHECK.fault(3, turner + "0,1,2,^0");
        String four = "alp minutes 10 huts 4 prices 1,1,1,1,1;cheese a hut 3;cloud 4 to 10;turner t sees from 0 to 10 hands 1 takes 1 huts ";
        CHECK.same("four huts", Check.alp(four + "0,1,2,3").work(0, 0), 1);
        CHECK.same("three huts", Check.alp(four + "0,1,2").work(0, 0), 0);
        CHECK.fault(3, four + "3,2,1,0,^3");
        CHECK.fault(4, four + "3,2,1,0,^4");
    }

    private static EclipseCheese called(EclipseCheese x) {
        x.call(0, true);
        return x;
    }

    /* "call TURNER at WHOLE for WHOLE costs WHOLE (a minute; 1 .. 60; 0 .. 99; ..)". */
    private static void callMinutes() {
        String text = "alp minutes 20 huts 1 prices 1,1,1,1,1;cheese a hut 0;turner t sees from 19 to 20 hands 1 takes 1 huts 0";
        CHECK.bounds(text + ";call t at # for 1 costs 0", 0, 19, x -> firstAwake(called(x)));
    }

    private static void callLasts() {
        String text = "alp minutes 240 huts 1 prices 1,1,1,1,1;cheese a hut 0;turner t sees from 0 to 1 hands 1 takes 1 huts 0";
        CHECK.bounds(text + ";call t at 100 for # costs 0", 1, 60, x -> called(x).work(0, 3) - 1);
        CHECK.bounds(text + ";call t at 1 for # costs 0", 1, 60, x -> endOfAwake(called(x)) - 1);
    }

    private static void callCosts() {
        String text = "alp minutes 240 huts 1 prices 99,1,1,1,1;cheese a hut 0;turner t sees from 0 to 1 hands 1 takes 1 huts 0";
        CHECK.bounds(text + ";call t at 100 for 1 costs #", 0, 99, x -> x.total() - called(x).total());
    }

    /* The bounds of minutes and huts are those of the ALP that is read, not those of the one that stands. */
    private static void boundsAreOfTheirOwnAlp() {
        EclipseCheese x = Check.alp("alp minutes 240 huts 4 prices 1,1,1,1,1;cheese a hut 3;bolt 239");
        CHECK.same("fewer minutes", Check.tell(x, HEAD + CHEESE + ";bolt 20"), -1);
        CHECK.same("bounds", x.fault(), 4);
        CHECK.same("fewer huts", Check.tell(x, HEAD + "cheese a hut 3"), -1);
        CHECK.same("bounds", x.fault(), 4);
        CHECK.same("the ALP stays", x.size(0), 240);
        CHECK.same("a small one", Check.tell(x, "alp minutes 10 huts 1 prices 1,1,1,1,1;cheese a hut 0"), 1);
        CHECK.same("more minutes", Check.tell(x, HEAD + "cheese a hut 2;bolt 19"), 1);
    }

    // ---- LINES: how many

    /* "up to 14 of these in all: EVENTS". */
    private static void eventsUpToFourteen() {
        String[] sorts = {"cloud 1 to 2", "eclipse 2 to 3", "lamp 0 1 to 2", "shutter 1 3 to 9", "bolt 3"};
        for (String many : sorts) {
            String full = HEAD + CHEESE + (";" + many).repeat(14);
            EclipseCheese x = Check.alp(full);
            CHECK.same("fourteen", x.size(2), 14);
            CHECK.same("the last is there", x.event(13, 2), x.event(0, 2));
            CHECK.refused("no fifteenth", x, x.event(14, 0), -1, 1);
            for (String more : sorts) {
                CHECK.fault(5, full + ";^" + more);
            }
            CHECK.fault(5, full + ";^bolt");
            CHECK.fault(5, full + ";  ^lamp 9");
        }
        CHECK.same("thirteen", Check.alp(HEAD + CHEESE + ";bolt 3".repeat(13)).size(2), 13);
        CHECK.same("none", Check.alp(HEAD + CHEESE).size(2), 0);
    }

    /* "cheese .. (up to 8)". */
    private static void cheesesUpToEight() {
        CHECK.sound(HEAD + cheeseNames(1), 1);
        CHECK.sound(HEAD + cheeseNames(7), 7);
        CHECK.sound(HEAD + cheeseNames(8), 8);
        CHECK.fault(5, HEAD + cheeseNames(8) + ";^cheese x hut 0");
        CHECK.fault(5, HEAD + cheeseNames(8) + ";^cheese");
        EclipseCheese x = Check.alp(HEAD + cheeseNames(8));
        CHECK.fine("the eighth", x, x.cheese(7, 6), 50);
        CHECK.refused("no ninth", x, x.cheese(8, 6), -1, 1);
        CHECK.same("all eight", x.total(), 400);
    }

    private static String turners(int many) {
        StringBuilder text = new StringBuilder(HEAD + CHEESE);
        for (int i = 0; i < many; i++) {
            text.append(";turner t").append((char) ('a' + i)).append(" sees from ").append(i).append(" to 20 hands 1 takes 1 huts 0");
        }
        return text.toString();
    }

    /* "turner .. (.. up to 5)". */
    private static void turnersUpToFive() {
        for (int many = 0; many <= 5; many++) {
            EclipseCheese x = Check.alp(turners(many));
            CHECK.same("turners", x.size(5), many);
            CHECK.refused("one more", x, x.work(many, 3), -1, 1);
        }
        EclipseCheese five = Check.alp(turners(5));
        CHECK.fine("the fifth", five, five.work(4, 3), 16);
        CHECK.fault(5, turners(5) + ";^turner x sees from 0 to 20 hands 1 takes 1 huts 0");
        CHECK.fault(5, turners(5) + ";^turner ta");
    }

    /* "call .. (.. up to 6)". */
    private static void callsUpToSix() {
        String call = ";call t at 1 for 1 costs 1";
        for (int many = 0; many <= 6; many++) {
            EclipseCheese x = Check.alp(HEAD + CHEESE + TURNER + call.repeat(many));
            CHECK.same("calls", x.size(6), many);
            CHECK.refused("one more", x, x.call(many, true), 1);
        }
        EclipseCheese six = Check.alp(HEAD + CHEESE + TURNER + call.repeat(6));
        CHECK.fine("the sixth", six, six.call(5, true));
        CHECK.same("its bit", six.calls(), 32);
        CHECK.fault(5, HEAD + CHEESE + TURNER + call.repeat(6) + ";^call t at 1 for 1 costs 1");
        CHECK.fault(5, HEAD + CHEESE + TURNER + call.repeat(6) + ";^call unknown");
    }

    /* "slice .. (.. up to 4 such LINES)". */
    private static void slicesUpToFour() {
        for (int many = 0; many <= 4; many++) {
            EclipseCheese x = Check.alp(HEAD + CHEESE + ";slice 1".repeat(many));
            CHECK.same("slices", x.size(7), many);
            CHECK.refused("one more", x, x.fits(many), -1, 1);
        }
        EclipseCheese four = Check.alp(HEAD + CHEESE + ";slice 1".repeat(4));
        CHECK.fine("the fourth", four, four.fits(3), 0);
        CHECK.fault(5, HEAD + CHEESE + ";slice 1".repeat(4) + ";^slice 1");
        CHECK.fault(5, HEAD + CHEESE + ";slice 1".repeat(4) + ";^slice 99");
    }

    /* "almanac .. once"; "a second alp, almanac; at that WORD". */
    private static void almanacOnce() {
        CHECK.same("none", Check.alp(HEAD + CHEESE).size(8), 0);
        CHECK.same("one", Check.alp(HEAD + CHEESE + ";almanac 5").size(8), 1);
        CHECK.fault(3, HEAD + CHEESE + ";almanac 5;^almanac 6");
        CHECK.fault(3, HEAD + CHEESE + ";almanac 5;bolt 3;^almanac");
        CHECK.fault(3, HEAD + "almanac " + EIGHT + ";^almanac 8");
        EclipseCheese x = Check.alp(HEAD + CHEESE + ";almanac 5");
        CHECK.same("a new text has its own", Check.tell(x, HEAD + CHEESE + ";almanac 6,7"), 1);
        CHECK.same("which counts", x.size(8), 2);
    }

    private static void alpOnce() {
        CHECK.fault(3, HEAD + "^alp");
        CHECK.fault(3, HEAD + CHEESE + ";^alp minutes 10 huts 1 prices 1,1,1,1,1");
        CHECK.fault(3, HEAD + CHEESE + ";bolt 3;^alp 7");
    }

    /* "(minutes, rising; up to 8; ..)". */
    private static void minutesOfListsUpToEight() {
        String minutes = "";
        for (int many = 1; many <= 8; many++) {
            minutes += (many == 1 ? "" : ",") + (many + 1);
            CHECK.same("almanac of " + many, Check.alp(HEAD + CHEESE + ";almanac " + minutes).size(8), many);
            EclipseCheese x = Check.alp(HEAD + CHEESE + ";almanac " + minutes + ";slice " + minutes
                + ";turner t almanac from 0 to 20 hands 1 takes 1 huts 0");
            CHECK.same("slice of " + many, x.fits(0), 1);
            CHECK.same("veins " + many, x.cheese(0, 1), many);
        }
        CHECK.fault(1, HEAD + CHEESE + ";almanac^");
        CHECK.fault(1, HEAD + CHEESE + ";almanac^;bolt 3");
        CHECK.fault(1, HEAD + CHEESE + ";slice^");
        CHECK.fault(1, HEAD + CHEESE + ";slice ^,1");
    }

    private static void oneFullSortLeavesRoomForOthers() {
        String call = ";call ta at 1 for 1 costs 1";
        String events = ";bolt 3".repeat(14);
        String text = turners(5) + call.repeat(6) + events + ";slice 1".repeat(4) + ";almanac " + EIGHT;
        text = text.replace(CHEESE, cheeseNames(8)).replace(" from ", " from").replace(" hands 1 takes 1 huts 0", " hands1takes1huts0");
        EclipseCheese x = Check.alp(text);
        int[] due = {20, 3, 14, 0, 8, 5, 6, 4, 8};
        for (int what = 0; what < due.length; what++) {
            CHECK.same("size " + what, x.size(what), due[what]);
        }
    }

    /* "a minute more of almanac, slice than may be: at it". */
    private static void aNinthMinute() {
        for (String list : new String[] {"almanac ", "slice "}) {
            CHECK.sound(HEAD + CHEESE + ";" + list + EIGHT, 1);
            CHECK.sound(HEAD + CHEESE + ";" + list + EIGHT + ";bolt 3", 1);
            CHECK.fault(5, HEAD + CHEESE + ";" + list + EIGHT + ",^8");
            CHECK.fault(5, HEAD + CHEESE + ";" + list + EIGHT + " ,  ^19 ;x");
            CHECK.fault(5, HEAD + CHEESE + ";" + list + EIGHT + ",^8,9,10");
            CHECK.fault(1, HEAD + CHEESE + ";" + list + EIGHT + ",^");
            CHECK.fault(1, HEAD + CHEESE + ";" + list + EIGHT + ",^;");
        }
    }

    // ---- LACKS, the end, the order of FAULTS

    /* "ahead of all others"; "any LINE ahead of the alp; at its WORD". */
    private static void alpAheadOfAllOthers() {
        String[] words = {"cloud", "eclipse", "lamp", "shutter", "bolt", "cheese", "almanac", "turner", "call", "slice"};
        for (String word : words) {
            CHECK.fault(6, "^" + word);
            CHECK.fault(6, "   ^" + word + " 1 to 2;" + HEAD + CHEESE);
            CHECK.fault(6, "^" + word + ";" + HEAD);
        }
        CHECK.fault(1, "^down");
        CHECK.fault(1, "^minutes");
        CHECK.fault(1, "^x;" + HEAD);
    }

    /* "at the end: no cheese". */
    private static void noCheese() {
        String bare = HEAD.substring(0, HEAD.length() - 1);
        CHECK.fault(6, bare + "^");
        CHECK.fault(6, bare + "    ^");
        CHECK.fault(6, bare + TURNER + ";call t at 1 for 1 costs 1;slice 3;almanac 4;bolt 5^");
        CHECK.sound(bare + ";" + CHEESE, 1);
    }

    /* "(the end: its place)". */
    private static void theEndAndItsPlace() {
        CHECK.fault(1, "^");
        CHECK.fault(1, " ^");
        CHECK.fault(1, " ".repeat(20) + "^");
        endsAtEachToken("", "alp minutes 20 huts 3 prices 1 , 2 , 3 , 4 , 5 #", 6);
        endsAtEachToken(HEAD + CHEESE, "down # ; cloud 1 to 2 # ; eclipse 1 to 2 # ; lamp 0 1 to 2 # ; shutter 0 1 to 2 #"
            + " ; bolt 1 # ; almanac 1 # , 2 # ; slice 1 # , 2 # , 3 # ; cheese b hut 2 #", 0);
        endsAtEachToken(HEAD + CHEESE, "; turner t sees from 0 to 20 hands 1 takes 1 huts 0 # , 1 #"
            + " ; call t at 1 for 1 costs 1 #", 0);
        EclipseCheese cut = new EclipseCheese();
        Check.feed(cut, HEAD + CHEESE + ";bolt 3");
        CHECK.refused("a WORD that n cuts", cut, cut.alp(HEAD.length() + CHEESE.length() + 3), -1, 4);
        CHECK.same("is another WORD", cut.where(), HEAD.length() + CHEESE.length() + 1);
    }

    /** A text cut behind each TOKEN: behind a # the end is met as told, elsewhere it is no form, at the end's place. */
    private static void endsAtEachToken(String ahead, String text, int faultAtMarks) {
        String[] parts = text.split(" ");
        String read = ahead;
        for (int i = 0; i < parts.length; i++) {
            boolean marked = i + 1 < parts.length && parts[i + 1].equals("#");
            read += parts[i].equals("#") ? "" : " " + parts[i];
            if (parts[i].equals("#")) {
                continue;
            }
            if (marked && faultAtMarks == 0) {
                CHECK.sound(read, read.contains("cheese b") ? 2 : 1);
            } else {
                CHECK.fault(marked ? faultAtMarks : 1, read + "^");
                CHECK.fault(marked ? faultAtMarks : 1, read + "  ^");
            }
        }
    }

    /* TOKENS of every LINE; those behind a ~ are told on their own, since the one behind may stand for them. */
    private static final String[] TOKENS = ("alp minutes 20 huts 3 prices 1 , 2 , 3 , 4 , 5 ; cheese ~a hut 0 down ; cloud 1 to 2"
        + " ; eclipse 1 to 2 ; lamp ~0 1 to 2 ; shutter ~0 1 to 2 ; bolt 7 ; almanac 1 , 2 ; turner ~t sees from 0 to 20 hands 1"
        + " takes 1 huts 0 , 1 ; call ~t at 1 for 1 costs 1 ; slice 3 , 4").split(" ");

    private static String joined(int from, int to) {
        StringBuilder text = new StringBuilder();
        for (int i = from; i < to; i++) {
            text.append(TOKENS[i].replace("~", "")).append(' ');
        }
        return text.toString();
    }

    /* "TOKEN with which no ALP goes on": without any one TOKEN, that behind it. */
    private static void eachTokenLeftOut() {
        CHECK.sound(joined(0, TOKENS.length), 1);
        for (int i = 0; i < TOKENS.length; i++) {
            if (TOKENS[i].equals("down")) {
                CHECK.sound(joined(0, i) + joined(i + 1, TOKENS.length), 1);
            } else if (!TOKENS[i].startsWith("~")) {
                CHECK.fault(1, joined(0, i) + "^" + joined(i + 1, TOKENS.length));
            }
        }
        CHECK.fault(1, HEAD + "cheese hut ^0");
        CHECK.fault(1, HEAD + "lamp 1 ^to 2");
        CHECK.fault(1, HEAD + "shutter 1 ^to 2");
        CHECK.fault(1, HEAD + "turner sees ^from 0 to 20 hands 1 takes 1 huts 0");
        CHECK.fault(2, HEAD + "call ^at 1 for 1 costs 1");
    }

    private static void eachTokenTwice() {
        for (int i = 0; i < TOKENS.length; i++) {
            boolean hut = i > 0 && (TOKENS[i - 1].equals("lamp") || TOKENS[i - 1].equals("shutter"));
            if (!hut) {
                CHECK.fault(1, joined(0, i + 1) + "^" + joined(i, TOKENS.length));
            }
        }
        CHECK.fault(1, HEAD + "lamp 0 0 ^1 to 2");
        CHECK.fault(1, HEAD + "shutter 0 0 ^1 to 2");
    }

    /* "of one place the least number". */
    private static void leastNumberOfOnePlace() {
        CHECK.fault(1, HEAD + "^");
        CHECK.fault(1, HEAD + "bolt 3;^");
        CHECK.fault(1, HEAD + "call ^alp");
        CHECK.fault(1, HEAD + "call ^down at 1 for 1 costs 1");
        CHECK.fault(4, HEAD + "slice " + EIGHT + ",^7");
        CHECK.fault(4, HEAD + "almanac " + EIGHT + ",^20");
        CHECK.fault(3, HEAD + CHEESE + ";turner ^a");
        CHECK.fault(2, HEAD + CHEESE + ";call ^a");
        CHECK.fault(5, HEAD + cheeseNames(8) + ";^cheese ca hut 9");
    }

    /* "the first that is met from the left". */
    private static void firstFromTheLeft() {
        CHECK.fault(4, HEAD + "bolt ^20;bolt X");
        CHECK.fault(1, HEAD + "bolt ^X;bolt 20");
        CHECK.fault(1, HEAD + "bolt 19 ^X");
        CHECK.fault(3, HEAD + CHEESE + ";cheese ^a hut 9");
        CHECK.fault(4, HEAD + CHEESE + ";cheese b hut ^9;cheese a hut 0");
        CHECK.fault(2, HEAD + "call ^t at 99 for 0 costs 0");
        CHECK.fault(4, "alp minutes ^9 huts 9 prices 100,100,100,100,100");
        CHECK.fault(4, "alp minutes 10 huts ^9 prices 100,100,100,100,100");
        CHECK.fault(4, "alp minutes 10 huts 1 prices 99,99,99,99,^100;cheese a hut 9");
        CHECK.fault(6, "^cheese a hut 0;cheese a hut 0;X");
    }
}

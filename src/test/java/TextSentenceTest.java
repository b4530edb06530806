/** "What it is", Terms I and promises 1 to 5, sentence by sentence, in the document's order. */
public final class TextSentenceTest {
    private static final Check CHECK = new Check("TextSentenceTest");
    private static final Sentences DOC = new Sentences(CHECK, "What it is", "I", "1", "2", "3", "4", "5");
    private static final String HEAD = "alp minutes 20 huts 3 prices 50,1,2,3,4";
    private static final String CHEESE = ";cheese a hut 0";
    private static final String TURNER = ";turner t sees from 0 to 20 hands 1 takes 1 huts 0";
    private static final String CALL = ";call t at 1 for 1 costs 1";
    /* One RIGHT vein in 2, one FALSE in 6, MISSED in 4, CRACKED in 8. */
    private static final String ONE_OF_EACH = ";cheese a hut 0;shutter 0 2 to 4;bolt 8;almanac 6"
        + ";turner t blind from 0 to 4 hands 1 takes 1 huts 0;turner w almanac from 5 to 20 hands 1 takes 1 huts 0";

    public static void main(String[] args) {
        whatItIs();
        fiveHundredAndTwelveCalls();
        theTape();
        blanks();
        words();
        wholes();
        singleOnes();
        linesAndSemicolons();
        alpLine();
        aheadOfAllOthers();
        events();
        theHutFirst();
        minutesFromTheFirst();
        fourteenInAll();
        cheeseLine();
        almanacLine();
        turnerLine();
        callLine();
        sliceLine();
        names();
        numbersFromNought();
        theFirstFromTheLeft();
        form();
        untold();
        again();
        outOfBounds();
        many();
        lacks();
        newObject();
        feeding();
        telling();
        tellingAgain();
        tellingRefused();
        faults();
        places();
        DOC.end();
        CHECK.end();
    }

    private static String repeated(String line, int times) {
        StringBuilder text = new StringBuilder();
        for (int i = 0; i < times; i++) {
            text.append(line.replace('#', (char) ('b' + i)));
        }
        return text.toString();
    }

    // ---- what it is

    private static void whatItIs() {
        DOC.says("What it is", "Cheese by eclipse: an alp on which cheeses must be turned at each change of the light; clouds, eclipses,"
            + " lightning, lamps that lie, shutters, huts, cheeses, turners who see, who are blind, deaf, or go by an almanac, with hands,"
            + " calls that wake them at a cost, slices with their veins, told as a text; light as it is and as it seems, minute by minute;"
            + " who is awake, what he notices, what he turns; veins right, missed, false, cracks, prices; what each turner, each lamp,"
            + " each cloud is worth; whom to wake for most, fewest turners who miss nothing, when most must be turned at once; which cheese"
            + " a slice is from, by which calls; each vein led to a cloud; clouds more by hand and by draws, nights that are drawn,"
            + " undoing, marks.");
        EclipseCheese x = Check.alp("alp minutes 20 huts 2 prices 10,5,3,2,4;cloud 3 to 6;lamp 0 4 to 8;shutter 1 10 to 15;bolt 5"
            + ";cheese a hut 0;cheese b hut 1 down;turner t sees from 0 to 20 hands 1 takes 2 huts 0,1;call t at 9 for 3 costs 1;slice 3");
        CHECK.fine("light as it is", x, x.light(0, 4, false), 0);
        CHECK.fine("and as it seems", x, x.light(0, 4, true), 1);
        CHECK.fine("who is awake", x, x.awake(0, 19), 1);
        CHECK.fine("what he notices", x, x.notices(0, 0, 5), 0);
        CHECK.fine("what he turns", x, x.work(0, 0), 4);
        int[][] due = {{0, 1, 1, 1, 0, 0, 12}, {1, 3, 3, 1, 0, 1, 20}};
        for (int c = 0; c < 2; c++) {
            for (int what = 0; what < 7; what++) {
                CHECK.fine("cheese " + c + " " + what, x, x.cheese(c, what), due[c][what]);
            }
        }
        CHECK.fine("total", x, x.total(), 32);
        CHECK.fine("a turner's worth", x, x.worth(0), 30);
        CHECK.fine("a cloud's", x, x.without(0), -4);
        CHECK.fine("a lamp's", x, x.without(1), 0);
        CHECK.fine("whom to wake", x, x.wake(), 0);
        CHECK.fine("fewest", x, x.fewest(), -2);
        CHECK.fine("most at once", x, x.peak(), 3);
        CHECK.fine("which cheese", x, x.fits(0), 1);
        CHECK.fine("by which calls", x, x.by(0), 0);
        CHECK.fine("a vein's cloud", x, x.cause(0, 0), 0);
        CHECK.fine("a cloud by hand", x, x.cloud(16, 18));
        CHECK.fine("a mark", x, x.mark(), 0);
        CHECK.fine("a draw", x, x.draw(), 74 % 20);
        CHECK.fine("undoing", x, x.undo());
        CHECK.fine("nights", x, x.nights(0, 2, 0), 64);
        CHECK.fine("back", x, x.back(0));
    }

    private static void fiveHundredAndTwelveCalls() {
        DOC.says("What it is", "An object is used for at most 512 calls after it has been made; what later calls answer is free.");
        String text = HEAD + ";cheese a hut 0;cheese b hut 1" + TURNER + CALL + ";shutter 1 3 to 5";
        EclipseCheese x = new EclipseCheese();
        int made = (text.length() + 19) / 20 + 2;
        CHECK.same("told", Check.tell(x, text), 2);
        int total = Check.alp(text).total();
        for (int i = 0; made + 7 <= 512; i++) {
            CHECK.same("call " + made, x.call(0, true), true);
            CHECK.same("cloud " + made, x.cloud(i % 19, i % 19 + 1), true);
            CHECK.same("sky " + made, x.sky(i % 19), 0);
            CHECK.same("undo " + made, x.undo(), true);
            CHECK.same("sky again " + made, x.sky(i % 19), 1);
            CHECK.same("undo again " + made, x.undo(), true);
            CHECK.same("total " + made, x.total(), total);
            made += 7;
        }
        for (; made < 511; made++) {
            CHECK.same("nothing to undo", x.undo(), false);
        }
        CHECK.same("the 512th", x.fewestBy(), -2);
    }

    // ---- THE TEXT

    private static void theTape() {
        DOC.says("I", "THE TEXT of an ALP (THE TAPE has 900 bytes");
        String text = HEAD + CHEESE;
        CHECK.sound(text + " ".repeat(900 - text.length()), 1);
        CHECK.sound(" ".repeat(900 - text.length()) + text, 1);
        String late = HEAD + " ".repeat(900 - text.length() - 5) + CHEESE + " down";
        CHECK.same("down, if the 900th byte counts", Check.alp(late).up(0, 0), 0);
        EclipseCheese x = new EclipseCheese();
        CHECK.same("900 and no more", Check.feed(x, late + " "), -1);
        CHECK.same("900", x.size(12), 900);
    }

    private static void blanks() {
        DOC.says("I", "blanks, 32, part TOKENS and mean nothing else");
        CHECK.sound("alp minutes 20 huts 3 prices 50,1,2,3,4;cheese a hut 0 down", 1);
        CHECK.sound("  alp  minutes   20 huts 3 prices 50 , 1 ,  2,3 ,4  ;  cheese   a hut 0   down   ", 1);
        CHECK.sound("alp minutes20huts3prices50,1,2,3,4;cheese a hut0down", 1);
        CHECK.fault(1, "^alpminutes 20 huts 3 prices 50,1,2,3,4;cheese a hut 0");
        CHECK.fault(1, HEAD + ";^cheesea hut 0");
        CHECK.fault(1, HEAD + ";^che ese a hut 0");
        CHECK.fault(4, "alp minutes ^2 0 huts 3 prices 50,1,2,3,4;cheese a hut 0");
        CHECK.fault(1, HEAD + " ^4;cheese a hut 0");
        for (int other : new int[] {0, 9, 10, 11, 12, 13, 31, 33, 160}) {
            CHECK.fault(1, HEAD + ";cheese a hut 0^" + (char) other);
        }
    }

    private static void words() {
        DOC.says("I", "TOKENS: WORDS of 1 to 8 small letters that stand together");
        CHECK.sound(HEAD + ";cheese z hut 0", 1);
        CHECK.sound(HEAD + ";cheese zzzzzzzz hut 0", 1);
        CHECK.fault(1, HEAD + ";cheese ^zzzzzzzzz hut 0");
        CHECK.fault(1, HEAD + ";cheese ^abcdefghhut 0");
        CHECK.sound(HEAD + ";cheese abcdefgh hut 0", 1);
        for (char other : new char[] {'A', 'Z', '`', '{', '_', (char) 228}) {
            CHECK.fault(1, HEAD + ";cheese ^" + other + " hut 0");
            CHECK.fault(1, HEAD + ";cheese a^" + other + " hut 0");
        }
        CHECK.fault(3, HEAD + ";cheese abcdefgh hut 0;cheese ^abcdefgh hut 0");
        CHECK.sound(HEAD + ";cheese abcdefgh hut 0;cheese abcdefgi hut 0;cheese abcdefg hut 0;cheese bbcdefgh hut 0", 4);
    }

    private static void wholes() {
        DOC.says("I", "WHOLES of 1 to 3 digits that do");
        EclipseCheese one = Check.alp("alp minutes 10 huts 2 prices 7,1,2,3,4;cheese a hut 1");
        CHECK.same("one digit", one.total(), 7);
        EclipseCheese two = Check.alp("alp minutes 10 huts 02 prices 07,01,02,03,04;cheese a hut 01");
        CHECK.same("two", two.total(), 7);
        EclipseCheese three = Check.alp("alp minutes 010 huts 002 prices 007,001,002,003,004;cheese a hut 001");
        CHECK.same("three", three.total(), 7);
        CHECK.same("minutes", three.size(0), 10);
        CHECK.fault(1, "alp minutes ^0010 huts 2 prices 7,1,2,3,4;cheese a hut 1");
        CHECK.fault(1, "alp minutes ^1000 huts 2 prices 7,1,2,3,4;cheese a hut 1");
        CHECK.fault(1, HEAD + ";cheese a hut ^" + "0".repeat(700));
        for (int digit = 0; digit < 10; digit++) {
            CHECK.same("digit", Check.alp("alp minutes 10 huts 1 prices " + digit + ",0,0,0,0;cheese a hut 0").total(), digit);
            CHECK.same("digit behind one", Check.alp("alp minutes 10 huts 1 prices 1" + digit + ",0,0,0,0;cheese a hut 0").total(), 10 + digit);
        }
        CHECK.fault(1, HEAD + ";cheese a hut ^/");
        CHECK.fault(1, HEAD + ";cheese a hut ^:");
    }

    private static void singleOnes() {
        DOC.says("I", "single ones of ; ,)");
        CHECK.sound(HEAD + CHEESE, 1);
        CHECK.fault(1, HEAD + ";^;cheese a hut 0");
        CHECK.fault(1, "alp minutes 20 huts 3 prices 50,^,1,2,3,4;cheese a hut 0");
        CHECK.fault(1, HEAD + "^,cheese a hut 0");
        CHECK.fault(1, "alp minutes 20 huts 3 prices 50^;1,2,3,4;cheese a hut 0");
        for (char other : "!\"#$%&'()*+-./:<=>?@[\\]|}~".toCharArray()) {
            CHECK.fault(1, HEAD + "^" + other + "cheese a hut 0");
        }
    }

    private static void linesAndSemicolons() {
        DOC.says("I", ": LINE {; LINE}. LINE, one of:");
        CHECK.fault(6, HEAD + "^");
        CHECK.sound(HEAD + CHEESE, 1);
        CHECK.sound(HEAD + CHEESE + ";bolt 3;cheese b hut 1", 2);
        CHECK.fault(1, "^");
        CHECK.fault(1, "^;" + HEAD + CHEESE);
        CHECK.fault(1, HEAD + CHEESE + ";^");
        CHECK.fault(1, HEAD + " ^cheese a hut 0");
        CHECK.fault(1, HEAD + CHEESE + " ^bolt 3");
        CHECK.fault(1, HEAD + CHEESE + " down ^down");
        CHECK.fault(1, HEAD + CHEESE + ";^fog 3");
        CHECK.fault(1, HEAD + CHEESE + ";^3");
    }

    // ---- LINES

    private static void alpLine() {
        DOC.says("I", "alp minutes WHOLE huts WHOLE prices WHOLE, WHOLE, WHOLE, WHOLE, WHOLE"
            + " (10 .. 240; 1 .. 4; base, vein, mite, crack, false, 0 .. 99 each)");
        CHECK.bounds("alp minutes # huts 1 prices 0,0,0,0,0;cheese a hut 0", 10, 240, x -> x.size(0));
        CHECK.bounds("alp minutes 10 huts # prices 0,0,0,0,0;cheese a hut 0", 1, 4, x -> x.size(1));
        CHECK.bounds("alp minutes 20 huts 1 prices #,0,0,0,0" + ONE_OF_EACH, 0, 99, x -> x.total());
        CHECK.bounds("alp minutes 20 huts 1 prices 9,#,0,0,0" + ONE_OF_EACH, 0, 99, x -> x.total() - 9);
        CHECK.bounds("alp minutes 20 huts 1 prices 99,0,#,0,0" + ONE_OF_EACH, 0, 99, x -> 99 - x.total());
        CHECK.bounds("alp minutes 20 huts 1 prices 99,0,0,#,0" + ONE_OF_EACH, 0, 99, x -> 99 - x.total());
        CHECK.bounds("alp minutes 20 huts 1 prices 99,0,0,0,#" + ONE_OF_EACH, 0, 99, x -> 99 - x.total());
        CHECK.fault(1, "alp ^huts 3 minutes 20 prices 50,1,2,3,4;cheese a hut 0");
        CHECK.fault(1, "alp minutes 20 ^prices 50,1,2,3,4;cheese a hut 0");
        CHECK.fault(1, "alp minutes 20 huts 3^;cheese a hut 0");
        CHECK.fault(1, "alp minutes 20 huts 3 ^50,1,2,3,4;cheese a hut 0");
        CHECK.fault(1, "alp minutes 20 huts 3 prices 50,1,2,3^;cheese a hut 0");
        CHECK.fault(1, "alp minutes 20 huts 3 prices 50,1,2,3,4^,5;cheese a hut 0");
        CHECK.fault(1, "alp minutes 20 huts 3 prices 50 ^1,2,3,4;cheese a hut 0");
    }

    private static void aheadOfAllOthers() {
        DOC.says("I", ", ahead of all others");
        for (String line : new String[] {"cloud 1 to 2", "eclipse 1 to 2", "lamp 0 1 to 2", "shutter 0 1 to 2", "bolt 1", "cheese a hut 0",
            "almanac 1", "turner t sees from 0 to 1 hands 1 takes 1 huts 0", "call t at 1 for 1 costs 1", "slice 1"}) {
            CHECK.fault(6, "^" + line + ";" + HEAD + CHEESE);
        }
        String[] shuffled = {CHEESE, TURNER, CALL, ";slice 1", ";almanac 1", ";bolt 1", ";cheese b hut 1", ";cloud 1 to 2"};
        CHECK.sound(HEAD + String.join("", shuffled), 2);
        CHECK.sound(HEAD + ";cloud 1 to 2;almanac 1;slice 1" + TURNER + ";bolt 1" + CALL + CHEESE, 1);
    }

    private static void events() {
        DOC.says("I", "cloud WHOLE to WHOLE, or eclipse WHOLE to WHOLE, or lamp WHOLE WHOLE to WHOLE, or shutter WHOLE WHOLE to WHOLE,"
            + " or bolt WHOLE");
        EclipseCheese x = Check.alp(HEAD + ";cloud 1 to 2;eclipse 3 to 5;lamp 2 6 to 9;shutter 1 7 to 11;bolt 12" + CHEESE);
        int[][] due = {{0, -2, 1, 2}, {1, -2, 3, 5}, {2, 2, 6, 9}, {3, 1, 7, 11}, {4, -2, 12, 13}};
        CHECK.same("five", x.size(2), 5);
        for (int e = 0; e < 5; e++) {
            for (int what = 0; what < 4; what++) {
                CHECK.same("event " + e + " " + what, x.event(e, what), due[e][what]);
            }
        }
        CHECK.fault(1, HEAD + ";cloud 1 ^2;cheese a hut 0");
        CHECK.fault(1, HEAD + ";cloud 1 to 2 ^3;cheese a hut 0");
        CHECK.fault(1, HEAD + ";cloud ^to 2;cheese a hut 0");
        CHECK.fault(1, HEAD + ";cloud 1^, 2;cheese a hut 0");
        CHECK.fault(1, HEAD + ";eclipse 1^;cheese a hut 0");
        CHECK.fault(1, HEAD + ";lamp 0 ^to 2;cheese a hut 0");
        CHECK.fault(1, HEAD + ";shutter 1 ^to 2;cheese a hut 0");
        CHECK.fault(1, HEAD + ";bolt 1 ^to 2;cheese a hut 0");
        CHECK.fault(1, HEAD + ";bolt^;cheese a hut 0");
    }

    private static void theHutFirst() {
        DOC.says("I", "(the hut first, if there is one");
        for (String sort : new String[] {"lamp", "shutter"}) {
            CHECK.bounds(HEAD + ";" + sort + " # 5 to 9" + CHEESE, 0, 2, x -> x.event(0, 1));
            EclipseCheese x = Check.alp(HEAD + ";" + sort + " 1 2 to 3" + CHEESE);
            CHECK.same("hut", x.event(0, 1), 1);
            CHECK.same("from", x.event(0, 2), 2);
        }
        CHECK.same("none", Check.alp(HEAD + ";cloud 1 to 2" + CHEESE).event(0, 1), -2);
    }

    private static void minutesFromTheFirst() {
        DOC.says("I", "minutes from the first to ahead of the second, which is above it and no more than there are");
        for (String sort : new String[] {"cloud ", "eclipse ", "lamp 1 ", "shutter 1 "}) {
            CHECK.bounds(HEAD + ";" + sort + "# to 20" + CHEESE, 0, 19, x -> x.event(0, 2));
            CHECK.bounds(HEAD + ";" + sort + "6 to #" + CHEESE, 7, 20, x -> x.event(0, 3));
            CHECK.fault(4, HEAD + ";" + sort + "6 to ^6" + CHEESE);
        }
        CHECK.bounds(HEAD + ";bolt #" + CHEESE, 0, 19, x -> x.event(0, 2));
        EclipseCheese x = Check.alp(HEAD + ";cloud 6 to 9" + CHEESE);
        CHECK.row("sky", x, x::sky, "11111100011111111111");
    }

    private static void fourteenInAll() {
        DOC.says("I", "up to 14 of these in all: EVENTS)");
        String five = ";cloud 1 to 2;eclipse 3 to 5;lamp 2 6 to 9;shutter 1 7 to 11;bolt 12";
        String thirteen = five + five + ";bolt 1;cloud 1 to 2;lamp 0 1 to 2";
        for (String line : five.substring(1).split(";")) {
            CHECK.same("fourteen", Check.alp(HEAD + thirteen + ";" + line + CHEESE).size(2), 14);
            CHECK.fault(5, HEAD + thirteen + ";bolt 9;^" + line + CHEESE);
        }
    }

    private static void cheeseLine() {
        DOC.says("I", "cheese NAME hut WHOLE, behind it perhaps down (up to 8)");
        CHECK.bounds(HEAD + ";cheese a hut #", 0, 2, x -> x.cheese(0, 0));
        EclipseCheese x = Check.alp(HEAD + ";cheese a hut 0 down;cheese b hut 1;cheese c hut 2 down");
        CHECK.same("down", x.up(0, 0), 0);
        CHECK.same("up", x.up(1, 0), 1);
        CHECK.same("down", x.up(2, 0), 0);
        CHECK.fault(1, HEAD + ";cheese ^4 hut 0");
        CHECK.fault(1, HEAD + ";cheese a ^0");
        CHECK.fault(1, HEAD + ";cheese a ^down hut 0");
        CHECK.fault(1, HEAD + ";cheese a hut ^down");
        CHECK.fault(1, HEAD + ";cheese a hut 0 ^up");
        CHECK.sound(HEAD + repeated(";cheese # hut 0", 8), 8);
        CHECK.fault(5, HEAD + repeated(";cheese # hut 0", 8) + ";^cheese a hut 0");
    }

    private static void almanacLine() {
        DOC.says("I", "or almanac WHOLE {, WHOLE} (minutes, rising; up to 8; once)");
        String walker = ";turner t almanac from 0 to 1 hands 1 takes 1 huts 0";
        EclipseCheese x = Check.alp(HEAD + CHEESE + walker + ";almanac 0,1,3,5,7,9,18,19");
        CHECK.row("its minutes", x, m -> x.notices(0, 0, m), "11010101010000000011");
        CHECK.same("eight", x.size(8), 8);
        CHECK.same("one", Check.alp(HEAD + CHEESE + ";almanac 7").size(8), 1);
        CHECK.fault(5, HEAD + CHEESE + ";almanac 0,1,3,5,7,9,17,18,^19");
        CHECK.bounds(HEAD + CHEESE + walker + ";almanac #", 0, 19, null);
        CHECK.bounds(HEAD + CHEESE + ";almanac 3,#", 4, 19, null);
        CHECK.fault(4, HEAD + CHEESE + ";almanac 3,^3");
        CHECK.fault(1, HEAD + CHEESE + ";almanac^");
        CHECK.fault(1, HEAD + CHEESE + ";almanac 3,^");
        CHECK.fault(1, HEAD + CHEESE + ";almanac 3 ^4");
        CHECK.fault(3, HEAD + CHEESE + ";almanac 3;^almanac 4");
    }

    private static void turnerLine() {
        DOC.says("I", "turner NAME KIND from WHOLE to WHOLE hands WHOLE takes WHOLE huts WHOLE {, WHOLE}"
            + " (KIND: sees, blind, deaf, or almanac; minutes as above; 1 .. 8; 1 .. 20; unlike huts; up to 5)");
        for (String kind : new String[] {"sees", "blind", "deaf", "almanac"}) {
            CHECK.same("kind " + kind, Check.alp(HEAD + CHEESE + ";turner t " + kind + " from 0 to 20 hands 1 takes 1 huts 0").size(5), 1);
        }
        for (String kind : new String[] {"see", "seen", "hears", "down", "cheese", "from", "1"}) {
            CHECK.fault(1, HEAD + CHEESE + ";turner t ^" + kind + " from 0 to 20 hands 1 takes 1 huts 0");
        }
        CHECK.bounds(HEAD + CHEESE + ";turner t sees from # to 20 hands 1 takes 1 huts 0", 0, 19, x -> 20 - x.work(0, 3));
        CHECK.bounds(HEAD + CHEESE + ";turner t sees from 6 to # hands 1 takes 1 huts 0", 7, 20, x -> 6 + x.work(0, 3));
        String eight = ";cheese b hut 0;cheese c hut 0;cheese d hut 0;cheese e hut 0;cheese f hut 0;cheese g hut 0;cheese h hut 0";
        for (int hands = 1; hands <= 8; hands++) {
            EclipseCheese x = Check.alp(HEAD + ";cloud 3 to 20" + CHEESE + eight + ";turner t sees from 0 to 20 hands " + hands + " takes 1 huts 0");
            CHECK.same("hands", x.work(0, 0), hands);
        }
        CHECK.bounds(HEAD + CHEESE + ";turner t sees from 0 to 20 hands # takes 1 huts 0", 1, 8, null);
        CHECK.bounds(HEAD + CHEESE + ";turner t sees from 0 to 20 hands 1 takes # huts 0", 1, 20, null);
        CHECK.bounds(HEAD + CHEESE + ";turner t sees from 0 to 20 hands 1 takes 1 huts #", 0, 2, null);
        CHECK.sound(HEAD + CHEESE + ";turner t sees from 0 to 20 hands 1 takes 1 huts 2,0,1", 1);
        CHECK.fault(3, HEAD + CHEESE + ";turner t sees from 0 to 20 hands 1 takes 1 huts 2,0,^2");
        CHECK.fault(4, HEAD + CHEESE + ";turner t sees from 0 to 20 hands 1 takes 1 huts 2,0,^3");
        CHECK.fault(1, HEAD + CHEESE + ";turner t sees from 0 to 20 hands 1 takes 1 ^hut 0");
        CHECK.fault(1, HEAD + CHEESE + ";turner t sees from 0 to 20 ^takes 1 hands 1 huts 0");
        CHECK.fault(1, HEAD + CHEESE + ";turner t sees from 0 to 20 hands 1 ^huts 0");
        CHECK.fault(1, HEAD + CHEESE + ";turner t sees ^0 to 20 hands 1 takes 1 huts 0");
        CHECK.fault(1, HEAD + CHEESE + ";turner ^3 sees from 0 to 20 hands 1 takes 1 huts 0");
        CHECK.fault(1, HEAD + CHEESE + ";turner t^;bolt 1");
        CHECK.fault(1, HEAD + CHEESE + ";turner^;bolt 1");
        String turner = ";turner # sees from 0 to 20 hands 1 takes 1 huts 0";
        CHECK.same("five", Check.alp(HEAD + CHEESE + repeated(turner, 5)).size(5), 5);
        CHECK.fault(5, HEAD + CHEESE + repeated(turner, 5) + ";^turner t sees from 0 to 20 hands 1 takes 1 huts 0");
    }

    private static void callLine() {
        DOC.says("I", "call TURNER at WHOLE for WHOLE costs WHOLE (a minute; 1 .. 60; 0 .. 99; up to 6)");
        String far = "alp minutes 99 huts 1 prices 99,0,0,0,0;cheese a hut 0;turner s sees from 98 to 99 hands 1 takes 1 huts 0"
            + ";turner t sees from 98 to 99 hands 1 takes 1 huts 0";
        EclipseCheese x = Check.alp(far + ";call t at 1 for 2 costs 3");
        x.call(0, true);
        CHECK.same("his", x.awake(1, 1), 1);
        CHECK.same("not the other's", x.awake(0, 1), 0);
        CHECK.bounds(far + ";call t at # for 1 costs 3", 0, 98, null);
        CHECK.bounds(far + ";call t at 1 for # costs 3", 1, 60, y -> {
            y.call(0, true);
            return y.work(1, 3) - 1;
        });
        CHECK.bounds(far + ";call t at 1 for 1 costs #", 0, 99, y -> {
            y.call(0, true);
            return 99 - y.total();
        });
        CHECK.fault(1, far + ";call t ^for 1 costs 3");
        CHECK.fault(1, far + ";call t at 1 ^costs 3");
        CHECK.fault(1, far + ";call t at 1 for 1^");
        CHECK.fault(1, far + ";call ^1 at 1 for 1 costs 3");
        CHECK.fault(1, far + ";call^;bolt 1");
        CHECK.fault(1, far + ";call t ^1 for 1 costs 3");
        CHECK.same("six", Check.alp(HEAD + CHEESE + TURNER + repeated(CALL, 6)).size(6), 6);
        CHECK.fault(5, HEAD + CHEESE + TURNER + repeated(CALL, 6) + ";^call t at 1 for 1 costs 1");
    }

    private static void sliceLine() {
        DOC.says("I", ", or slice WHOLE {, WHOLE} (minutes, rising; up to 8; up to 4 such LINES)");
        String daily = "alp minutes 20 huts 1 prices 0,0,0,0,0;cheese a hut 0;almanac 1,3,5,7,9,11,18,19"
            + ";turner t almanac from 0 to 20 hands 1 takes 1 huts 0";
        EclipseCheese x = Check.alp(daily + ";slice 1,3,5,7,9,11,18,19;slice 1;slice 1,3,5,7,9,11,18;slice 0,3,5,7,9,11,18,19");
        CHECK.same("four", x.size(7), 4);
        CHECK.same("the first", x.fits(0), 1);
        CHECK.same("the others", x.fits(1) + x.fits(2) + x.fits(3), 0);
        CHECK.fault(5, daily + ";slice 1;slice 2;slice 3;slice 4;^slice 5");
        CHECK.fault(5, daily + ";slice 0,1,3,5,7,9,11,18,^19");
        CHECK.bounds(daily + ";slice #", 0, 19, null);
        CHECK.bounds(daily + ";slice 3,#", 4, 19, null);
        CHECK.fault(1, daily + ";slice^");
        CHECK.fault(1, daily + ";slice 3,^;slice 4");
        CHECK.fault(1, daily + ";slice 3 ^4");
    }

    private static void names() {
        DOC.says("I", "NAMES are WORDS but alp, cloud, eclipse, lamp, shutter, bolt, cheese, almanac, turner, call, slice, down; each told once.");
        for (String word : "alp cloud eclipse lamp shutter bolt cheese almanac turner call slice down".split(" ")) {
            CHECK.fault(1, HEAD + ";cheese ^" + word + " hut 0");
            CHECK.fault(1, HEAD + CHEESE + ";turner ^" + word + " sees from 0 to 20 hands 1 takes 1 huts 0");
            CHECK.fault(1, HEAD + CHEESE + TURNER + ";call ^" + word + " at 1 for 1 costs 1");
        }
        for (String word : "minutes huts prices to hut sees blind deaf from hands takes at for costs x alps fog".split(" ")) {
            CHECK.sound(HEAD + ";cheese " + word + " hut 0", 1);
            CHECK.sound(HEAD + CHEESE + ";turner " + word + " sees from 0 to 20 hands 1 takes 1 huts 0;call " + word + " at 1 for 1 costs 1", 1);
        }
        CHECK.fault(3, HEAD + ";cheese a hut 0;cheese ^a hut 1");
        CHECK.fault(3, HEAD + CHEESE + ";turner ^a sees from 0 to 20 hands 1 takes 1 huts 0");
        CHECK.fault(3, HEAD + TURNER + ";cheese ^t hut 0");
    }

    private static void numbersFromNought() {
        DOC.says("I", "Huts have numbers from 0 on, minutes, too.");
        EclipseCheese x = Check.alp(HEAD + ";shutter 0 0 to 1;shutter 2 19 to 20;cheese a hut 2");
        CHECK.same("hut 0, minute 0", x.light(0, 0, false), 0);
        CHECK.same("hut 1, minute 0", x.light(1, 0, false), 1);
        CHECK.same("hut 2, minute 19", x.light(2, 19, false), 0);
        CHECK.same("no hut 3", x.light(3, 0, false), -1);
        CHECK.same("no minute 20", x.sky(20), -1);
    }

    // ---- FAULTS

    private static void theFirstFromTheLeft() {
        DOC.says("I", "FAULTS, the first that is met from the left, of one place the least number:");
        CHECK.fault(4, "alp minutes ^9 huts 5 prices 50,1,2,3,4;fog");
        CHECK.fault(4, "alp minutes 20 huts ^5 prices 50,1,2,3,4;fog");
        CHECK.fault(1, HEAD + ";^fog;cheese a hut 9");
        CHECK.fault(4, HEAD + ";cheese a hut ^9;!");
        CHECK.fault(3, HEAD + ";cheese a hut 0;cheese ^a hut 9");
        CHECK.fault(6, "^cheese a hut 9;!");
        CHECK.fault(1, "^fog");
        CHECK.fault(1, HEAD + ";^");
        CHECK.fault(4, HEAD + CHEESE + ";almanac 1,2,3,4,5,6,7,8,^8");
        CHECK.fault(4, HEAD + CHEESE + ";slice 1,2,3,4,5,6,7,8,^20");
        CHECK.fault(1, HEAD + CHEESE + ";slice 1,2,3,4,5,6,7,8,^;");
    }

    private static void form() {
        DOC.says("I", "1 FORM: the first byte that begins no TOKEN, or TOKEN with which no ALP goes on (the end: its place).");
        CHECK.fault(1, "^!");
        CHECK.fault(1, HEAD + CHEESE + "^!");
        CHECK.fault(1, HEAD + CHEESE + " down^!");
        CHECK.fault(1, HEAD + CHEESE + "^,");
        CHECK.fault(1, HEAD + CHEESE + " ^7");
        CHECK.fault(1, HEAD + ";cheese^");
        CHECK.fault(1, HEAD + ";cheese a^");
        CHECK.fault(1, HEAD + ";cheese a hut^");
        CHECK.fault(1, HEAD + ";cheese a hut   ^");
        CHECK.fault(6, HEAD + "  ^");
    }

    private static void untold() {
        DOC.says("I", "2 a NAME that isn't told, or is of another sort than must stand there; at it.");
        CHECK.fault(2, HEAD + CHEESE + TURNER + ";call ^u at 1 for 1 costs 1");
        CHECK.fault(2, HEAD + CHEESE + TURNER + ";call ^a at 1 for 1 costs 1");
        CHECK.fault(2, HEAD + CHEESE + ";call ^t at 1 for 1 costs 1");
        CHECK.fault(2, HEAD + CHEESE + ";call ^t at 1 for 1 costs 1" + TURNER);
        CHECK.fault(2, HEAD + CHEESE + TURNER + ";call ^tt at 1 for 1 costs 1");
        CHECK.sound(HEAD + CHEESE + TURNER + CALL, 1);
    }

    private static void again() {
        DOC.says("I", "3 a NAME, a hut told again; at it; a second alp, almanac; at that WORD.");
        CHECK.fault(3, HEAD + CHEESE + TURNER + ";turner ^t sees from 0 to 20 hands 1 takes 1 huts 0");
        CHECK.fault(3, HEAD + CHEESE + ";cheese b hut 0;cheese c hut 0;cheese ^b hut 0");
        CHECK.fault(3, HEAD + CHEESE + ";turner t sees from 0 to 20 hands 1 takes 1 huts 0,^0");
        CHECK.fault(3, HEAD + ";^" + HEAD + CHEESE);
        CHECK.fault(3, HEAD + CHEESE + ";^alp");
        CHECK.fault(3, HEAD + CHEESE + ";almanac 1;^almanac 1");
        CHECK.sound(HEAD + CHEESE + ";cheese b hut 0;cloud 1 to 2;cloud 1 to 2;slice 1;slice 1", 2);
    }

    private static void outOfBounds() {
        DOC.says("I", "4 a WHOLE out of bounds, a minute not above the one ahead; at it.");
        CHECK.fault(4, HEAD + ";cheese a hut ^3");
        CHECK.fault(4, HEAD + CHEESE + ";bolt ^20");
        CHECK.fault(4, HEAD + CHEESE + ";cloud 3 to ^21");
        CHECK.fault(4, HEAD + CHEESE + ";cloud 3 to ^3");
        CHECK.fault(4, HEAD + CHEESE + ";cloud 3 to ^2");
        CHECK.fault(4, HEAD + CHEESE + ";turner t sees from 5 to ^5 hands 1 takes 1 huts 0");
        CHECK.fault(4, HEAD + CHEESE + ";almanac 5,^5");
        CHECK.fault(4, HEAD + CHEESE + ";almanac 5,6,^4");
        CHECK.fault(4, HEAD + CHEESE + ";slice 5,^4");
        CHECK.fault(4, HEAD + CHEESE + ";slice 5,6,^20");
    }

    private static void many() {
        DOC.says("I", "5 MANY: a LINE more of its sort than there is room for, at its first WORD;"
            + " a minute more of almanac, slice than may be: at it.");
        CHECK.fault(5, HEAD + repeated(";cheese # hut 0", 8) + ";^cheese");
        CHECK.fault(5, HEAD + CHEESE + repeated(";bolt 3", 14) + ";^lamp");
        CHECK.fault(5, HEAD + CHEESE + TURNER + repeated(CALL, 6) + ";^call");
        CHECK.fault(5, HEAD + CHEESE + repeated(";turner # sees from 0 to 20 hands 1 takes 1 huts 0", 5) + ";^turner");
        CHECK.fault(5, HEAD + CHEESE + repeated(";slice 1", 4) + ";^slice");
        CHECK.fault(5, HEAD + CHEESE + ";almanac 1,2,3,4,5,6,7,8,^9");
        CHECK.fault(5, HEAD + CHEESE + ";slice 1,2,3,4,5,6,7,8,^9");
        CHECK.sound(HEAD + CHEESE + ";almanac 1,2,3,4,5,6,7,8;slice 1,2,3,4,5,6,7,8", 1);
    }

    private static void lacks() {
        DOC.says("I", "6 LACKS: any LINE ahead of the alp; at its WORD; at the end: no cheese.");
        CHECK.fault(6, "^bolt 3;" + HEAD + CHEESE);
        CHECK.fault(6, "   ^slice");
        CHECK.fault(6, HEAD + "^");
        CHECK.fault(6, HEAD + TURNER + CALL + ";almanac 1;slice 1;bolt 3^");
        CHECK.sound(HEAD + ";bolt 3" + CHEESE, 1);
    }

    // ---- promises 1 to 5

    private static void newObject() {
        DOC.says("1", "No ALP.");
        EclipseCheese x = new EclipseCheese();
        for (int what = 0; what <= 12; what++) {
            CHECK.same("size " + what, x.size(what), 0);
        }
        CHECK.same("no fault", x.fault(), 0);
        CHECK.same("no trouble", x.trouble(), 0);
        CHECK.refused("no sky", x, x.sky(0), -1, 1);
        CHECK.refused("no calls", x, x.calls(), -1, 1);
        CHECK.refused("no total", x, x.total(), -100000, 1);
    }

    private static void feeding() {
        DOC.says("2", "Twenty bytes come behind THE TAPE, of each number the highest first: how many it has;"
            + " NONE, and none comes, if there would be more than 900.");
        EclipseCheese x = new EclipseCheese();
        CHECK.same("20", x.feed(0x616c7020, 0x6d696e75, 0x74657320, 0x31352068, 0x75747320), 20);
        CHECK.same("40", x.feed(0x32207072, 0x69636573, 0x20372c30, 0x2c302c30, 0x2c303b63), 40);
        CHECK.same("60", x.feed(0x68656573, 0x65206120, 0x68757420, 0x31000000, 0xffffffff), 60);
        CHECK.same("\"alp minutes 15 huts 2 prices 7,0,0,0,0;cheese a hut 1\"", x.alp(53), 1);
        CHECK.same("15 minutes", x.size(0), 15);
        CHECK.same("in hut 1", x.cheese(0, 0), 1);
        CHECK.same("base 7", x.total(), 7);
        EclipseCheese full = new EclipseCheese();
        for (int i = 1; i <= 45; i++) {
            CHECK.same("feed " + i, full.feed(0x20202020, 0x20202020, 0x20202020, 0x20202020, 0x20202020), 20 * i);
        }
        CHECK.same("no more", full.feed(0x61616161, 0x61616161, 0x61616161, 0x61616161, 0x61616161), -1);
        CHECK.same("900 bytes", full.size(12), 900);
        CHECK.same("blanks alone", full.alp(900), -1);
        CHECK.same("none came", full.where(), 900);
    }

    private static void telling() {
        DOC.says("3", "The first n bytes of THE TAPE (it is empty then) are the ALP from now on"
            + " (no CALLS made, no clouds more, SEED 0, nothing to undo, no MARKS): how many cheeses.");
        EclipseCheese x = Check.alp(HEAD + CHEESE + TURNER + CALL);
        x.call(0, true);
        x.cloud(3, 4);
        x.seed(77);
        x.mark();
        Check.feed(x, HEAD + ";cheese a hut 0;cheese b hut 1" + TURNER + CALL + ";fog");
        CHECK.fine("cheeses", x, x.alp((HEAD + ";cheese a hut 0;cheese b hut 1" + TURNER + CALL).length()), 2);
        CHECK.same("THE TAPE is empty", x.size(12), 0);
        CHECK.same("no CALLS made", x.calls(), 0);
        CHECK.same("no clouds more", x.size(3), 0);
        CHECK.same("bright", x.sky(3), 1);
        CHECK.same("SEED", x.size(9), 0);
        CHECK.same("acts", x.size(10), 0);
        CHECK.refused("nothing to undo", x, x.undo(), 6);
        CHECK.same("marks", x.size(11), 0);
        CHECK.refused("no MARKS", x, x.back(0), 1);
        CHECK.same("total", x.total(), 100);
    }

    /** Each text of one object that is told several, one behind another, is what it is on a new object. */
    private static void tellingAgain() {
        DOC.says("3", "are the ALP from now on");
        String rich = HEAD + ";cloud 2 to 5;lamp 1 3 to 7;shutter 2 1 to 9;eclipse 11 to 13;bolt 15;cheese a hut 2 down;cheese b hut 1 down;almanac 3,4"
            + ";turner t sees from 0 to 20 hands 1 takes 2 huts 1,2;turner w almanac from 0 to 20 hands 2 takes 1 huts 2" + CALL + ";slice 2;slice 3,4";
        String other = "alp minutes 30 huts 4 prices 60,2,0,1,3;bolt 4;cheese z hut 3;almanac 4;turner w almanac from 2 to 9 hands 1 takes 1 huts 3;slice 4";
        String bare = "alp minutes 10 huts 1 prices 7,0,0,0,0;cheese a hut 0";
        EclipseCheese x = new EclipseCheese();
        for (String text : new String[] {rich, bare, other, rich, rich, other, other, bare, bare, "fog", rich, other, bare}) {
            Check.tell(x, text);
            if (!text.equals("fog")) {
                alike(text, x, Check.alp(text));
            }
        }
    }

    private static void alike(String what, EclipseCheese x, EclipseCheese y) {
        for (int i = 0; i <= 12; i++) {
            CHECK.same("size " + i + " of " + what, x.size(i), y.size(i));
        }
        CHECK.same("total of " + what, x.total(), y.total());
        for (int m = 0; m < 30; m++) {
            CHECK.same("sky " + m + " of " + what, x.sky(m), y.sky(m));
            CHECK.same("due " + m + " of " + what, x.due(m), y.due(m));
        }
        for (int i = 0; i < 7; i++) {
            CHECK.same("cheese 0 " + i + " of " + what, x.cheese(0, i), y.cheese(0, i));
            CHECK.same("cheese 1 " + i + " of " + what, x.cheese(1, i), y.cheese(1, i));
            CHECK.same("work 0 " + i + " of " + what, x.work(0, i), y.work(0, i));
            CHECK.same("work 1 " + i + " of " + what, x.work(1, i), y.work(1, i));
            CHECK.same("fits " + i + " of " + what, x.fits(i), y.fits(i));
            CHECK.same("event " + i + " of " + what, x.event(i, 2), y.event(i, 2));
        }
    }

    private static void tellingRefused() {
        DOC.says("3", "NONE: 2 (THE TAPE stays); 4 (the ALP stays).");
        EclipseCheese x = Check.alp(HEAD + CHEESE + TURNER + CALL);
        x.call(0, true);
        x.cloud(3, 4);
        x.seed(77);
        x.mark();
        int total = x.total();
        Check.feed(x, HEAD + ";cheese a hut 0;cheese b hut 1");
        int fed = x.size(12);
        for (int n : new int[] {-1, fed + 1, Integer.MIN_VALUE, Integer.MAX_VALUE}) {
            CHECK.refused("alp " + n, x, x.alp(n), -1, 2);
            CHECK.same("THE TAPE stays", x.size(12), fed);
        }
        CHECK.refused("faulty", x, x.alp(5), -1, 4);
        CHECK.same("then THE TAPE is empty", x.size(12), 0);
        CHECK.same("cheeses", x.size(4), 1);
        CHECK.same("calls", x.calls(), 1);
        CHECK.same("clouds", x.size(3), 1);
        CHECK.same("SEED", x.size(9), 77);
        CHECK.same("acts", x.size(10), 2);
        CHECK.same("marks", x.size(11), 1);
        CHECK.same("total", x.total(), total);
        CHECK.same("dark", x.sky(3), 0);
    }

    private static void faults() {
        DOC.says("4", "The FAULT of the latest alp() not refused by 2; 0 without one.");
        EclipseCheese x = new EclipseCheese();
        CHECK.same("none yet", x.fault(), 0);
        String[] texts = {"!", HEAD + CHEESE + CALL, HEAD + CHEESE + CHEESE, HEAD + ";cheese a hut 3", HEAD + CHEESE + repeated(";bolt 1", 15), HEAD};
        for (int fault = 1; fault <= 6; fault++) {
            Check.tell(x, texts[fault - 1]);
            CHECK.same("fault", x.fault(), fault);
            x.alp(-1);
            x.sky(0);
            CHECK.same("it stays", x.fault(), fault);
        }
        Check.tell(x, HEAD + CHEESE);
        CHECK.same("none", x.fault(), 0);
        x.alp(-1);
        CHECK.same("none by 2", x.fault(), 0);
    }

    private static void places() {
        DOC.says("5", "Its place, if the latest call that may be refused was by 4; NONE else.");
        EclipseCheese x = new EclipseCheese();
        CHECK.same("none yet", x.where(), -1);
        Check.tell(x, HEAD + ";cheese a hut 3");
        int place = HEAD.length() + 14;
        CHECK.same("at the 3", x.where(), place);
        x.feed(0, 0, 0, 0, 0);
        x.size(0);
        x.fault();
        x.trouble();
        Check.seen(x, 0);
        CHECK.same("still", x.where(), place);
        x.alp(21);
        CHECK.same("by 2", x.where(), -1);
        Check.tell(x, "!");
        CHECK.same("behind no ALP", x.where(), 0);
        x.undo();
        CHECK.same("by 6", x.where(), -1);
        Check.tell(x, "  !");
        CHECK.same("again", x.where(), 2);
        Check.tell(x, HEAD + CHEESE);
        CHECK.same("not refused", x.where(), -1);
        Check.tell(x, "!");
        x.total();
        CHECK.same("a call that isn't refused", x.where(), -1);
    }
}

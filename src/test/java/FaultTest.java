/** Promises 3, 4, 5: every FAULT with its place; the place is told by a ^ ahead of it in the text. */
public final class FaultTest {
    private static final String HEAD = "alp minutes 20 huts 3 prices 1,2,3,4,5;";
    private static final String CHEESE = "cheese a hut 0";
    private static final Check CHECK = new Check("FaultTest");

    private static void fault(int number, String marked) {
        int where = marked.indexOf('^');
        String text = marked.substring(0, where) + marked.substring(where + 1);
        EclipseCheese x = new EclipseCheese();
        CHECK.same("alp of " + marked, Check.tell(x, text), -1);
        CHECK.same("fault of " + marked, x.fault(), number);
        CHECK.same("where of " + marked, x.where(), where);
        CHECK.same("trouble of " + marked, x.trouble(), 4);
        CHECK.same("tape of " + marked, x.size(12), 0);
    }

    private static void sound(String text, int cheeses) {
        EclipseCheese x = new EclipseCheese();
        CHECK.same("alp of " + text, Check.tell(x, text), cheeses);
        CHECK.same("fault of " + text, x.fault(), 0);
        CHECK.same("where of " + text, x.where(), -1);
        CHECK.same("trouble of " + text, x.trouble(), 0);
    }

    public static void main(String[] args) {
        tokens();
        forms();
        names();
        again();
        bounds();
        many();
        lacks();
        leftmost();
        sounds();
        CHECK.end();
    }

    private static void tokens() {
        fault(1, "^");
        fault(1, "   ^");
        fault(1, "^;");
        fault(1, "^Alp minutes 20");
        fault(1, "^alpp");
        fault(1, "^abcdefghi");
        fault(1, "^20");
        fault(1, "alp minutes ^0020 huts 3");
        fault(1, "alp minutes ^1000 huts 3");
        fault(1, "alp minutes 20^\thuts 3");
        fault(1, "alp minutes 20^\0huts 3");
        fault(1, "alp minutes 20^" + (char) 233);
        fault(1, "alp minutes ^-20");
        fault(1, HEAD + "cheese ^abcdefghi hut 0");
        fault(1, HEAD + CHEESE + "^.");
        fault(1, HEAD + CHEESE + ";^;cloud 1 to 2");
    }

    private static void forms() {
        fault(1, "alp^");
        fault(1, "alp   ^");
        fault(1, "alp ^minute 20");
        fault(1, "alp minutes^");
        fault(1, "alp minutes 20 ^hut 3");
        fault(1, "alp minutes 20 huts 3 ^price 1");
        fault(1, "alp minutes 20 huts 3 prices 1 ^");
        fault(1, "alp minutes 20 huts 3 prices 1 ^2,3,4,5");
        fault(1, "alp minutes 20 huts 3 prices 1,2,3,4^;");
        fault(1, "alp minutes 20 huts 3 prices 1,2,3,4,5^,6");
        fault(1, HEAD + "^");
        fault(1, HEAD + CHEESE + ";^");
        fault(1, HEAD + CHEESE + " ^up");
        fault(1, HEAD + CHEESE + " down ^down");
        fault(1, HEAD + CHEESE + "^,1");
        fault(1, HEAD + "^fog 1 to 2");
        fault(1, HEAD + "^down");
        fault(1, HEAD + "cloud ^to 2");
        fault(1, HEAD + "cloud 1 ^2");
        fault(1, HEAD + "cloud 1 to^");
        fault(1, HEAD + "cloud 1 to 2 ^3");
        fault(1, HEAD + "lamp 0 ^to 2");
        fault(1, HEAD + "lamp 1 2 ^3");
        fault(1, HEAD + "shutter^");
        fault(1, HEAD + "bolt 1 ^to 2");
        fault(1, HEAD + "cheese hut ^0");
        fault(1, HEAD + "cheese a ^0");
        fault(1, HEAD + "cheese a hut ^a");
        fault(1, HEAD + "almanac^");
        fault(1, HEAD + "almanac 1,^");
        fault(1, HEAD + "almanac 1 ^2");
        fault(1, HEAD + "turner ^almanac almanac from 0 to 1 hands 1 takes 1 huts 0");
        fault(1, HEAD + "turner t ^seeing");
        fault(1, HEAD + "turner t sees ^0");
        fault(1, HEAD + "turner t sees from 0 ^5");
        fault(1, HEAD + "turner t sees from 0 to 5 ^takes 1");
        fault(1, HEAD + "turner t sees from 0 to 5 hands 1 ^hands 1");
        fault(1, HEAD + "turner t sees from 0 to 5 hands 1 takes 1 ^hut 0");
        fault(1, HEAD + "turner t sees from 0 to 5 hands 1 takes 1 huts^");
        fault(1, HEAD + "turner t sees from 0 to 5 hands 1 takes 1 huts 0 ^1");
        fault(1, HEAD + "turner t sees from 0 to 5 hands 1 takes 1 huts 0,^;");
        fault(1, HEAD + "slice ^,");
        fault(1, HEAD + "slice 1,2,^x");
        fault(1, HEAD + "call ^5");
        fault(1, HEAD + turner("t", "0") + "call t ^for 5");
        fault(1, HEAD + turner("t", "0") + "call t at 5 ^costs 5");
        fault(1, HEAD + turner("t", "0") + "call t at 5 for 5 ^5");
        fault(1, HEAD + turner("t", "0") + "call t at 5 for 5 costs^");
    }

    private static void names() {
        String[] kept = {"alp", "cloud", "eclipse", "lamp", "shutter", "bolt", "cheese", "almanac", "turner", "call",
            "slice", "down"};
        for (String word : kept) {
            fault(1, HEAD + "cheese ^" + word + " hut 0");
            fault(1, HEAD + "turner ^" + word + " sees from 0 to 1 hands 1 takes 1 huts 0");
            fault(1, HEAD + "call ^" + word + " at 1 for 1 costs 1");
        }
        String[] free = {"minutes", "huts", "prices", "to", "hut", "from", "hands", "takes", "sees", "blind", "deaf",
            "at", "for", "costs", "z", "abcdefgh"};
        for (String word : free) {
            sound(HEAD + CHEESE + ";" + turner(word, "0") + "call " + word + " at 0 for 1 costs 0", 1);
            sound(HEAD + "cheese " + word + " hut 2 down", 1);
        }
        fault(2, HEAD + "call ^t at 1 for 1 costs 1");
        fault(2, HEAD + CHEESE + ";call ^a at 1 for 1 costs 1");
        fault(2, HEAD + "call ^t at 1 for 1 costs 1;" + turner("t", "0") + CHEESE);
        fault(2, HEAD + turner("t", "0") + "call ^tt at 1 for 1 costs 1");
    }

    private static void again() {
        fault(3, HEAD + CHEESE + ";cheese ^a hut 1");
        fault(3, HEAD + CHEESE + ";turner ^a");
        fault(3, HEAD + turner("t", "0") + "turner ^t sees");
        fault(3, HEAD + turner("t", "0") + "cheese ^t hut 0");
        fault(3, HEAD + "turner t sees from 0 to 5 hands 1 takes 1 huts 2,1,^2");
        fault(3, HEAD + "turner t sees from 0 to 5 hands 1 takes 1 huts 2,1,0,^1,5");
        fault(3, HEAD + "^alp");
        fault(3, HEAD + CHEESE + ";^alp minutes 20 huts 3 prices 1,1,1,1,1");
        fault(3, HEAD + "almanac 1,2;^almanac 3");
        sound(HEAD + CHEESE + ";cheese aa hut 0;cheese b hut 0", 3);
    }

    private static void bounds() {
        fault(4, "alp minutes ^9");
        fault(4, "alp minutes ^0");
        fault(4, "alp minutes ^241");
        fault(4, "alp minutes 240 huts ^0");
        fault(4, "alp minutes 240 huts ^5 x");
        for (int i = 0; i < 5; i++) {
            fault(4, "alp minutes 10 huts 4 prices " + "99,".repeat(i) + "^100");
        }
        for (String sort : new String[] {"cloud", "eclipse", "lamp 2", "shutter 0"}) {
            fault(4, HEAD + sort + " ^20 to 21");
            fault(4, HEAD + sort + " 19 to ^21");
            fault(4, HEAD + sort + " 5 to ^5");
            fault(4, HEAD + sort + " 5 to ^0");
            sound(HEAD + sort + " 19 to 20;" + CHEESE, 1);
            sound(HEAD + sort + " 0 to 20;" + CHEESE, 1);
        }
        fault(4, HEAD + "lamp ^3 1 to 2");
        fault(4, HEAD + "shutter ^999 1 to 2");
        fault(4, HEAD + "bolt ^20");
        sound(HEAD + "bolt 0;bolt 19;" + CHEESE, 1);
        fault(4, HEAD + "cheese a hut ^3");
        fault(4, HEAD + "almanac ^20");
        fault(4, HEAD + "almanac 5,^5");
        fault(4, HEAD + "almanac 5,6,^4");
        fault(4, HEAD + "slice 19,^20");
        fault(4, HEAD + "slice ^20");
        fault(4, HEAD + "slice 3,^2");
        fault(4, HEAD + "turner t sees from ^20 to 21");
        fault(4, HEAD + "turner t sees from 3 to ^3");
        fault(4, HEAD + "turner t sees from 3 to ^21");
        fault(4, HEAD + "turner t sees from 0 to 20 hands ^0");
        fault(4, HEAD + "turner t sees from 0 to 20 hands ^9");
        fault(4, HEAD + "turner t sees from 0 to 20 hands 8 takes ^0");
        fault(4, HEAD + "turner t sees from 0 to 20 hands 8 takes ^21");
        fault(4, HEAD + "turner t sees from 0 to 20 hands 8 takes 20 huts ^3");
        fault(4, HEAD + turner("t", "0") + "call t at ^20");
        fault(4, HEAD + turner("t", "0") + "call t at 19 for ^0");
        fault(4, HEAD + turner("t", "0") + "call t at 19 for ^61");
        fault(4, HEAD + turner("t", "0") + "call t at 19 for 60 costs ^100");
        sound(HEAD + CHEESE + ";" + turner("t", "0") + "call t at 19 for 60 costs 99", 1);
    }

    private static void many() {
        String[] events = {"cloud 1 to 2;", "eclipse 2 to 3;", "lamp 0 1 to 2;", "shutter 1 3 to 9;", "bolt 3;"};
        StringBuilder full = new StringBuilder(HEAD);
        for (int i = 0; i < 14; i++) {
            full.append(events[i % 5]);
        }
        sound(full + CHEESE, 1);
        for (String event : events) {
            fault(5, full + "^" + event);
        }
        String cheeses = HEAD;
        for (int i = 0; i < 8; i++) {
            cheeses += "cheese " + (char) ('a' + i) + " hut 0;";
        }
        sound(cheeses + "almanac 3", 8);
        fault(5, cheeses + "^cheese a hut 0");
        String turners = HEAD + CHEESE;
        for (int i = 0; i < 5; i++) {
            turners += ";turner " + (char) ('t' + i) + " deaf from 0 to 1 hands 1 takes 1 huts 0";
        }
        sound(turners, 1);
        fault(5, turners + ";^turner b");
        String calls = HEAD + CHEESE + ";" + turner("t", "0") + "call t at 1 for 1 costs 1"
            + ";call t at 1 for 1 costs 1".repeat(5);
        sound(calls, 1);
        fault(5, calls + ";^call none");
        String slices = HEAD + CHEESE + ";slice 1".repeat(4);
        sound(slices, 1);
        fault(5, slices + ";^slice");
        for (String list : new String[] {"almanac", "slice"}) {
            sound(HEAD + CHEESE + ";" + list + " 0,1,2,3,4,5,6,7", 1);
            fault(5, HEAD + list + " 0,1,2,3,4,5,6,7,^8");
            fault(4, HEAD + list + " 0,1,2,3,4,5,6,7,^7");
            fault(4, HEAD + list + " 0,1,2,3,4,5,6,7,^20");
            fault(1, HEAD + list + " 0,1,2,3,4,5,6,7,^x");
            fault(1, HEAD + list + " 0,1,2,3,4,5,6,7,^");
        }
    }

    private static void lacks() {
        for (String line : new String[] {"cloud 1", "eclipse", "lamp", "shutter", "bolt", "cheese alp", "almanac 1",
            "turner", "call", "slice"}) {
            fault(6, "^" + line);
            fault(6, "  ^" + line + ";" + HEAD);
        }
        fault(6, HEAD + "cloud 1 to 2^");
        fault(6, HEAD + "bolt 1  ^");
        fault(6, "alp minutes 20 huts 3 prices 1,2,3,4,5^");
    }

    private static void leftmost() {
        fault(4, HEAD + "cloud ^30 to X");
        fault(3, HEAD + "^alp minutes 5");
        fault(1, HEAD + "cloud 3 ^X 50");
        fault(5, HEAD + CHEESE + ";slice 1;slice 1;slice 1;slice 1;^slice 1 1");
    }

    private static void sounds() {
        sound("  alp   minutes20huts3prices1,2,3,4,5;cheese a hut0down ; bolt3 ", 1);
        sound("alp minutes 010 huts 1 prices 00,000,99,0,0;cheese a hut 000", 1);
        sound("alp minutes 240 huts 4 prices 0,0,0,0,0;cheese to hut 3;bolt 239", 1);
    }

    private static String turner(String name, String huts) {
        return "turner " + name + " sees from 0 to 20 hands 1 takes 1 huts " + huts + ";";
    }
}

/** What is kept from earlier calls never shows: one object told several ALPS, and moved to and fro, against new ones. */
public final class AgainTest {
    private static final Check CHECK = new Check("AgainTest");

    /* All that there is room for. */
    private static String full() {
        StringBuilder t = new StringBuilder("alp minutes 240 huts 4 prices 99,9,8,7,6");
        for (int i = 0; i < 14; i++) {
            String[] kinds = {"cloud ", "eclipse ", "lamp " + i % 4 + " ", "shutter " + i % 3 + " ", "bolt "};
            t.append(';').append(kinds[i % 5]).append(17 * i + 1);
            t.append(i % 5 == 4 ? "" : " to " + (17 * i + 12));
        }
        for (int i = 0; i < 8; i++) {
            t.append(";cheese ").append((char) ('a' + i)).append(" hut ").append(i % 4).append(i % 3 == 0 ? " down" : "");
        }
        t.append(";almanac 0,1,18,41,52,86,173,239");
        String[] kinds = {"sees", "blind", "deaf", "almanac", "blind"};
        for (int i = 0; i < 5; i++) {
            t.append(";turner t").append((char) ('a' + i)).append(' ').append(kinds[i]).append(" from ").append(40 * i);
            t.append(" to 240 hands ").append(i + 1).append(" takes ").append(3 * i + 1).append(" huts 0,3,2,1");
        }
        for (int i = 0; i < 6; i++) {
            t.append(";call tb at ").append(i * 7).append(" for 6 costs 9");
        }
        t.append(";slice 1;slice 2;slice 3;slice 4");
        return t.toString().replaceAll("(?<=[0-9]) (?=[a-z])|(?<=[a-z]) (?=[0-9])", "");
    }

    private static final String SMALL = "alp minutes 10 huts 1 prices 5,1,1,1,1;cheese a hut 0";
    private static final String MIDDLE = "alp minutes 30 huts 3 prices 50,4,3,2,1;cheese a hut 0;cheese b hut 2;cloud 2 to 29"
        + ";almanac 3;turner t almanac from 2 to 5 hands 1 takes 20 huts 2;turner u sees from 0 to 30 hands 2 takes 1 huts 0,1"
        + ";call t at 9 for 3 costs 1;slice 2,29";

    public static void main(String[] args) {
        CHECK.same("full", full().length() <= 880, true);
        severalAlps();
        afterFaults();
        cloudsAgain();
        askedTwice();
        CHECK.end();
    }

    private static int mixed(int sum, int answer) {
        return sum * 31 + answer;
    }

    /** All that can be asked of an object, in one number. */
    private static int all(EclipseCheese x) {
        int sum = 0;
        for (int what = 0; what < 9; what++) {
            sum = mixed(sum, x.size(what));
        }
        for (int hut = 0; hut < x.size(1); hut++) {
            int last = x.changes(hut, false);
            sum = mixed(mixed(sum, last), x.changes(hut, true));
            sum = mixed(mixed(sum, x.change(hut, 0)), x.change(hut, last));
        }
        for (int m = 0; m < x.size(0); m += 3) {
            sum = mixed(sum, x.sky(m) + 2 * x.due(m));
            for (int c = 0; c < x.size(4); c++) {
                sum = mixed(sum, x.turned(c, m) + 10 * x.up(c, m));
            }
        }
        for (int c = 0; c < x.size(4); c++) {
            for (int what = 0; what < 7; what++) {
                sum = mixed(sum, x.cheese(c, what));
            }
            sum = mixed(sum, x.cause(c, 0));
            sum = mixed(sum, Check.seen(x, c));
        }
        for (int t = 0; t < x.size(5); t++) {
            for (int what = 0; what < 4; what++) {
                sum = mixed(sum, x.work(t, what));
            }
            sum = mixed(sum, x.worth(t));
        }
        for (int e = 0; e < x.size(2); e++) {
            sum = mixed(sum, x.without(e));
        }
        for (int s = 0; s < x.size(7); s++) {
            sum = mixed(mixed(sum, x.fits(s)), x.by(s));
        }
        sum = mixed(mixed(sum, x.wake()), x.wakeTotal());
        sum = mixed(mixed(sum, x.fewest()), x.fewestBy());
        return mixed(mixed(sum, x.nights(3, 2, 6)), x.peak());
    }

    private static void severalAlps() {
        String dark = SMALL + ";shutter 0 3 to 8;eclipse 5 to 9;lamp 0 1 to 4;bolt 2;cloud 0 to 1";
        String late = MIDDLE + ";cloud 10 to 20;shutter 0 11 to 13;lamp 2 10 to 12";
        String[] texts = {full(), SMALL, MIDDLE, SMALL, dark, SMALL, late, SMALL, full(), full(), SMALL, dark, MIDDLE, full(),
            MIDDLE, dark, late, late};
        EclipseCheese x = new EclipseCheese();
        for (int i = 0; i < texts.length; i++) {
            CHECK.same("told " + i, Check.tell(x, texts[i]) > 0, true);
            CHECK.same("all of " + i, all(x), all(Check.alp(texts[i])));
        }
    }

    private static void afterFaults() {
        EclipseCheese x = Check.alp(SMALL);
        for (String text : new String[] {full() + ";slice 5", full().replace("blind", "blond"), "", full() + ";"}) {
            CHECK.same("fault", Check.tell(x, text), -1);
            CHECK.same("all as it was", all(x), all(Check.alp(SMALL)));
            CHECK.same("told", Check.tell(x, MIDDLE), 2);
            CHECK.same("all of the next", all(x), all(Check.alp(MIDDLE)));
            Check.tell(x, SMALL);
        }
        CHECK.same("one cheese", x.size(4), 1);
        CHECK.same("a name is new in a new text", Check.tell(x, SMALL + ";cheese b hut 0"), 2);
        CHECK.same("and again", Check.tell(x, SMALL + ";cheese b hut 0"), 2);
        Check.tell(x, SMALL + ";almanac 3");
        CHECK.same("an almanac, too", Check.tell(x, SMALL + ";almanac 3"), 1);
    }

    private static void cloudsAgain() {
        EclipseCheese x = Check.alp(MIDDLE.replace(";cloud 2 to 29", ""));
        int bright = all(x);
        x.cloud(1, 2);
        x.cloud(6, 9);
        int clouded = all(x);
        CHECK.same("another answer", bright == clouded, false);
        CHECK.same("mark", x.mark(), 0);
        x.lift();
        x.lift();
        CHECK.same("bright", all(x), bright);
        x.cloud(11, 14);
        x.cloud(16, 19);
        x.cloud(20, 22);
        CHECK.same("other clouds", all(x) == clouded, false);
        x.back(0);
        CHECK.same("clouds", x.size(3), 2);
        CHECK.same("from", x.event(0, 2), 1);
        CHECK.same("to", x.event(0, 3), 2);
        CHECK.same("from", x.event(1, 2), 6);
        CHECK.same("to", x.event(1, 3), 9);
        CHECK.same("clouded", all(x), clouded);
        x.lift();
        x.lift();
        x.cloud(11, 14);
        x.undo();
        x.undo();
        x.undo();
        CHECK.same("undone", all(x), clouded);
        CHECK.same("from", x.event(0, 2), 1);
        int total = x.total();
        int from = x.draw();
        CHECK.same("drawn clouds are seen", x.sky(from), 0);
        CHECK.same("and count", x.total() - total, -x.without(2));
        x.call(0, true);
        CHECK.same("a call counts at once", x.awake(0, 9), 1);
        x.back(0);
        CHECK.same("and back", x.awake(0, 9), 0);
        CHECK.same("clouded", all(x), clouded);
    }

    private static void askedTwice() {
        EclipseCheese x = Check.alp(full());
        int first = all(x);
        CHECK.same("asked twice", all(x), first);
        x.call(0, true);
        x.call(5, true);
        int called = all(x);
        x.undo();
        x.undo();
        CHECK.same("undone", all(x), first);
        x.call(5, true);
        x.call(0, true);
        CHECK.same("called again", all(x), called);
    }
}

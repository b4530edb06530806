/** Promises 6 to 11. */
public final class LightTest {
    private static final Check CHECK = new Check("LightTest");
    private static final int NO_HUT = -1;
    private static final String HEAD = "alp minutes 12 huts 3 prices 0,0,0,0,0;";

    public static void main(String[] args) {
        skies();
        lights();
        changeTimes();
        peaks();
        refusals();
        cloudsThatCame();
        CHECK.end();
    }

    private static String row(EclipseCheese x, int hut, boolean seems) {
        StringBuilder row = new StringBuilder();
        for (int m = 0; m < x.size(0); m++) {
            row.append(hut < 0 ? x.sky(m) : x.light(hut, m, seems));
        }
        return row.toString();
    }

    private static void is(String what, String got, String want) {
        CHECK.same(what + " " + got + " for " + want, got.equals(want), true);
    }

    private static void skies() {
        EclipseCheese x = Check.alp(HEAD + "cheese a hut 0;cloud 2 to 6;eclipse 5 to 8;bolt 3;bolt 5;bolt 10;cloud 0 to 1");
        is("sky", row(x, NO_HUT, false), "010100001111");
        EclipseCheese y = Check.alp(HEAD + "cheese a hut 0;lamp 0 0 to 12;shutter 0 0 to 12");
        is("sky above a shutter", row(y, NO_HUT, false), "111111111111");
    }

    private static void lights() {
        EclipseCheese x = Check.alp(HEAD + "cheese a hut 0;cloud 2 to 6;bolt 4;shutter 1 3 to 5;lamp 1 4 to 7;lamp 2 5 to 9"
            + ";eclipse 8 to 10");
        is("hut 0", row(x, 0, false), "110010110011");
        is("hut 0 seems", row(x, 0, true), "110010110011");
        is("hut 1", row(x, 1, false), "110000110011");
        is("hut 1 seems", row(x, 1, true), "110011110011");
        is("hut 2", row(x, 2, false), "110010110011");
        is("hut 2 seems", row(x, 2, true), "110011111011");
    }

    private static void changeTimes() {
        EclipseCheese x = Check.alp(HEAD + "cheese a hut 0;cloud 0 to 2;lamp 1 1 to 12;shutter 2 11 to 12");
        CHECK.fine("changes 0", x, x.changes(0, false), 1);
        CHECK.fine("changes 0 seems", x, x.changes(0, true), 1);
        CHECK.fine("change 0 0", x, x.change(0, 0), 2);
        CHECK.refused("change 0 1", x, x.change(0, 1), -1, 1);
        CHECK.fine("changes 1", x, x.changes(1, false), 1);
        CHECK.fine("changes 1 seems", x, x.changes(1, true), 1);
        CHECK.fine("change 1 0 is no seeming", x, x.change(1, 0), 2);
        CHECK.fine("changes 2", x, x.changes(2, false), 2);
        CHECK.fine("change 2 1", x, x.change(2, 1), 11);
        CHECK.refused("change 2 -1", x, x.change(2, -1), -1, 1);
        CHECK.refused("change 2 most", x, x.change(2, Integer.MAX_VALUE), -1, 1);
        EclipseCheese dark = Check.alp(HEAD + "cheese a hut 0;shutter 0 0 to 12");
        CHECK.fine("no change in minute 0", dark, dark.changes(0, false), 0);
    }

    private static void peaks() {
        EclipseCheese x = Check.alp(HEAD + "cheese a hut 0;cheese b hut 1;cheese c hut 1;shutter 0 1 to 3;shutter 1 4 to 6"
            + ";shutter 2 8 to 9");
        CHECK.fine("peak", x, x.peak(), 4);
        int[] due = {0, 1, 0, 1, 2, 0, 2, 0, 0, 0, 0, 0};
        for (int m = 0; m < 12; m++) {
            CHECK.fine("due " + m, x, x.due(m), due[m]);
        }
        EclipseCheese none = Check.alp(HEAD + "cheese a hut 0;shutter 2 8 to 9;lamp 0 2 to 5");
        CHECK.fine("no peak", none, none.peak(), -2);
        CHECK.fine("nothing due", none, none.due(8), 0);
    }

    private static void refusals() {
        EclipseCheese x = Check.alp(HEAD + "cheese a hut 0");
        for (int m : new int[] {-1, 12, Integer.MIN_VALUE, Integer.MAX_VALUE}) {
            CHECK.refused("sky", x, x.sky(m), -1, 2);
            CHECK.refused("due", x, x.due(m), -1, 2);
            CHECK.refused("light", x, x.light(0, m, false), -1, 2);
        }
        for (int hut : new int[] {-1, 3, Integer.MIN_VALUE, Integer.MAX_VALUE}) {
            CHECK.refused("light", x, x.light(hut, 0, true), -1, 1);
            CHECK.refused("light and minute", x, x.light(hut, -1, true), -1, 1);
            CHECK.refused("changes", x, x.changes(hut, false), -1, 1);
            CHECK.refused("change", x, x.change(hut, 0), -1, 1);
        }
        CHECK.fine("sky 11", x, x.sky(11), 1);
        CHECK.fine("light 2 11", x, x.light(2, 11, true), 1);
    }

    private static void cloudsThatCame() {
        EclipseCheese x = Check.alp(HEAD + "cheese a hut 0;bolt 2");
        x.cloud(1, 4);
        is("sky", row(x, NO_HUT, false), "101011111111");
        CHECK.same("changes", x.changes(0, false), 4);
        x.lift();
        is("sky again", row(x, NO_HUT, false), "111111111111");
        x.undo();
        CHECK.same("changes again", x.changes(0, false), 4);
        CHECK.same("peak", x.peak(), 1);
    }
}

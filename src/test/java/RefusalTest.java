import java.util.ArrayList;
import java.util.List;
import java.util.function.ToIntFunction;

/**
 * Terms IV: every call that is refused, for each of its reasons, on twins: on one of two objects of like past the call is
 * made and refused, and then both must answer alike whatever they are asked. Likewise the calls that only ask.
 */
public final class RefusalTest {
    private static final Check CHECK = new Check("RefusalTest");
    private static final int LEAST = Integer.MIN_VALUE;
    private static final int MOST = Integer.MAX_VALUE;
    private static final int NO_TOTAL = -100000;

    /* 20 minutes, 2 huts, 5 events, 3 cheeses, 4 turners, 3 calls, 2 slices. */
    private static final String TEXT = "alp minutes 20 huts 2 prices 10,5,3,2,4;eclipse 5 to 7;lamp 0 4 to 6;bolt 12;cloud 9 to 11"
        + ";shutter 1 15 to 17;cheese a hut 0;cheese b hut 1;cheese c hut 1 down;almanac 0,7,9"
        + ";turner s sees from 8 to 10 hands 2 takes 3 huts 0,1;turner bb blind from 0 to 20 hands 1 takes 1 huts 1,0"
        + ";turner d deaf from 6 to 7 hands 8 takes 1 huts 0;turner w almanac from 0 to 20 hands 8 takes 20 huts 1"
        + ";call s at 15 for 3 costs 2;call d at 1 for 60 costs 9;call s at 16 for 1 costs 0;slice 5,7;slice 5,6,7";

    /** How an object came to be what it is. */
    private enum Past { NEW, BARE, MOVED, FULL }

    public static void main(String[] args) {
        withoutAnAlp();
        alp();
        light();
        turners();
        cheeses();
        whatCouldBe();
        calls();
        clouds();
        otherActs();
        marks();
        events();
        whatSetsNoTrouble();
        whatOnlyAsks();
        CHECK.end();
    }

    private static EclipseCheese made(Past past) {
        EclipseCheese x = new EclipseCheese();
        if (past == Past.NEW) {
            return x;
        }
        Check.tell(x, TEXT);
        if (past != Past.BARE) {
            x.seed(3);
            x.cloud(1, 3);
            x.mark();
            x.call(0, true);
            x.draw();
            Check.feed(x, "alp minutes 10;");
        }
        if (past == Past.FULL) {
            x.mark();
            x.mark();
            for (int i = 0; i < 6; i++) {
                x.call(1, i % 2 == 0);
                x.draw();
            }
            x.call(2, true);
        }
        return x;
    }

    /** All answers of an object, those behind undoing and going back, too; some 250 calls. */
    private static List<Integer> all(EclipseCheese x) {
        List<Integer> seen = new ArrayList<>();
        seen.add(x.fault());
        state(x, seen);
        for (int m = 0; m < 20; m++) {
            seen.add(x.sky(m));
            seen.add(x.turned(0, m));
        }
        for (int c = 0; c < 3; c++) {
            seen.add(x.cheese(c, 6));
            seen.add(Check.seen(x, c));
        }
        seen.add(x.draw());
        seen.add(x.size(9));
        for (int i = 0; i < 14; i++) {
            seen.add(x.undo() ? 1 : 0);
            seen.add(x.calls());
            seen.add(x.size(3));
            seen.add(x.size(9));
        }
        for (int mark = 0; mark < 3; mark++) {
            seen.add(x.back(mark) ? 1 : 0);
            state(x, seen);
        }
        seen.add(x.alp(x.size(12)));
        seen.add(x.fault());
        seen.add(x.where());
        return seen;
    }

    private static void state(EclipseCheese x, List<Integer> seen) {
        for (int what = 0; what <= 12; what++) {
            seen.add(x.size(what));
        }
        seen.add(x.calls());
        seen.add(x.total());
        for (int e = 0; e < x.size(3); e++) {
            seen.add(x.event(x.size(2) + e, 2));
            seen.add(x.event(x.size(2) + e, 3));
        }
    }

    /** Makes a call on one twin; it answers as told and leaves this TROUBLE, and the twins stay alike. */
    private static void leavesAll(String what, Past past, ToIntFunction<EclipseCheese> call, int answer, int trouble) {
        EclipseCheese x = made(past);
        CHECK.same(what + " of " + past, call.applyAsInt(x), answer);
        CHECK.same(what + " of " + past + " trouble", x.trouble(), trouble);
        CHECK.same(what + " of " + past + " where", x.where(), -1);
        CHECK.same(what + " of " + past + " leaves all as it was", all(x).equals(all(made(past))), true);
    }

    private static void refused(String what, ToIntFunction<EclipseCheese> call, int answer, int trouble) {
        for (Past past : new Past[] {Past.BARE, Past.MOVED, Past.FULL}) {
            leavesAll(what, past, call, answer, trouble);
        }
    }

    private static int truth(boolean is) {
        return is ? 1 : 0;
    }

    // ---- 1: no ALP

    private static void noAlp(String what, ToIntFunction<EclipseCheese> call, int answer) {
        leavesAll(what, Past.NEW, call, answer, 1);
    }

    private static void withoutAnAlp() {
        for (int i : new int[] {LEAST, -1, 0, 1, 20, MOST}) {
            noAlp("sky", x -> x.sky(i), -1);
            noAlp("light", x -> x.light(i, i, true), -1);
            noAlp("light", x -> x.light(0, i, false), -1);
            noAlp("changes", x -> x.changes(i, true), -1);
            noAlp("changes", x -> x.changes(i, false), -1);
            noAlp("change", x -> x.change(i, i), -1);
            noAlp("due", x -> x.due(i), -1);
            noAlp("awake", x -> x.awake(i, i), -1);
            noAlp("awake", x -> x.awake(0, i), -1);
            noAlp("notices", x -> x.notices(i, 0, i), -1);
            noAlp("notices", x -> x.notices(0, i, 0), -1);
            noAlp("work", x -> x.work(i, 0), -1);
            noAlp("worth", x -> x.worth(i), NO_TOTAL);
            noAlp("turned", x -> x.turned(i, 0), -1);
            noAlp("turned", x -> x.turned(0, i), -1);
            noAlp("up", x -> x.up(i, 0), -1);
            noAlp("up", x -> x.up(0, i), -1);
            noAlp("cheese", x -> x.cheese(i, 0), -1);
            noAlp("vein", x -> x.vein(i, i), -1);
            noAlp("cause", x -> x.cause(i, i), -1);
            noAlp("without", x -> x.without(i), NO_TOTAL);
            noAlp("fits", x -> x.fits(i), -1);
            noAlp("by", x -> x.by(i), -1);
            noAlp("nights", x -> x.nights(i, i, i), NO_TOTAL);
            noAlp("nights", x -> x.nights(i, 1, 1), NO_TOTAL);
            noAlp("call", x -> truth(x.call(i, true)), 0);
            noAlp("call", x -> truth(x.call(i, false)), 0);
            noAlp("cloud", x -> truth(x.cloud(i, i)), 0);
            noAlp("cloud", x -> truth(x.cloud(0, i)), 0);
            noAlp("seed", x -> truth(x.seed(i)), 0);
            noAlp("back", x -> truth(x.back(i)), 0);
            noAlp("event", x -> x.event(i, 0), -1);
        }
        noAlp("peak", EclipseCheese::peak, -1);
        noAlp("total", EclipseCheese::total, NO_TOTAL);
        noAlp("wake", EclipseCheese::wake, -1);
        noAlp("wakeTotal", EclipseCheese::wakeTotal, NO_TOTAL);
        noAlp("fewest", EclipseCheese::fewest, -1);
        noAlp("fewestBy", EclipseCheese::fewestBy, -1);
        noAlp("calls", EclipseCheese::calls, -1);
        noAlp("draw", EclipseCheese::draw, -1);
        noAlp("mark", EclipseCheese::mark, -1);
        leavesAll("lift", Past.NEW, x -> truth(x.lift()), 0, 6);
        leavesAll("undo", Past.NEW, x -> truth(x.undo()), 0, 6);
        leavesAll("alp", Past.NEW, x -> x.alp(1), -1, 2);
    }

    // ---- with an ALP

    /* "NONE: 2 (THE TAPE stays); 4 (the ALP stays)". */
    private static void alp() {
        for (int n : new int[] {LEAST, -1, 901, MOST}) {
            refused("alp " + n, x -> x.alp(n), -1, 2);
        }
        refused("alp of one more than there is", x -> x.alp(x.size(12) + 1), -1, 2);
        for (Past past : new Past[] {Past.BARE, Past.MOVED, Past.FULL}) {
            EclipseCheese x = made(past);
            EclipseCheese twin = made(past);
            for (EclipseCheese each : new EclipseCheese[] {x, twin}) {
                CHECK.refused("a faulty alp", each, each.alp(each.size(12)), -1, 4);
            }
            CHECK.same("TAPE", x.size(12), 0);
            CHECK.refused("another", x, Check.tell(x, TEXT + ";turner a"), -1, 4);
            CHECK.refused("and another", x, Check.tell(x, "alp minutes 10 huts 1 prices 0,0,0,0,0;cheese a hut 0 down down"), -1, 4);
            CHECK.refused("the last", x, x.alp(0), -1, 4);
            CHECK.refused("the twin's", twin, twin.alp(0), -1, 4);
            CHECK.same("the ALP stays, and what was done", all(x).equals(all(twin)), true);
        }
    }

    private static void light() {
        for (int m : new int[] {LEAST, -1, 20, 240, MOST}) {
            refused("sky " + m, x -> x.sky(m), -1, 2);
            refused("light in " + m, x -> x.light(1, m, true), -1, 2);
            refused("due " + m, x -> x.due(m), -1, 2);
        }
        for (int hut : new int[] {LEAST, -1, 2, 4, 32, MOST}) {
            refused("light of " + hut, x -> x.light(hut, 0, false), -1, 1);
            refused("light of " + hut + ", a minute, too", x -> x.light(hut, 20, false), -1, 1);
            refused("changes of " + hut, x -> x.changes(hut, true), -1, 1);
            refused("change of " + hut, x -> x.change(hut, 0), -1, 1);
        }
        for (int i : new int[] {LEAST, -1, 20, MOST}) {
            refused("change " + i, x -> x.change(0, i), -1, 1);
        }
        refused("change of as many", x -> x.change(1, x.changes(1, false)), -1, 1);
    }

    private static void turners() {
        for (int t : new int[] {LEAST, -1, 4, 5, 32, MOST}) {
            refused("awake of " + t, x -> x.awake(t, 0), -1, 1);
            refused("awake of " + t + ", a minute, too", x -> x.awake(t, 20), -1, 1);
            refused("notices of " + t, x -> x.notices(t, 0, 0), -1, 1);
            refused("notices of " + t + ", a minute, too", x -> x.notices(t, 0, -1), -1, 1);
            refused("work of " + t, x -> x.work(t, 0), -1, 1);
            refused("worth of " + t, x -> x.worth(t), NO_TOTAL, 1);
        }
        for (int hut : new int[] {LEAST, -1, 2, 4, 32, MOST}) {
            refused("notices in " + hut, x -> x.notices(0, hut, 0), -1, 1);
            refused("notices in " + hut + ", a minute, too", x -> x.notices(3, hut, 20), -1, 1);
        }
        for (int m : new int[] {LEAST, -1, 20, 240, MOST}) {
            refused("awake in " + m, x -> x.awake(3, m), -1, 2);
            refused("notices in minute " + m, x -> x.notices(3, 1, m), -1, 2);
        }
        for (int what : new int[] {LEAST, -1, 4, MOST}) {
            refused("work " + what, x -> x.work(0, what), -1, 1);
        }
    }

    private static void cheeses() {
        for (int c : new int[] {LEAST, -1, 3, 8, 32, MOST}) {
            refused("turned of " + c, x -> x.turned(c, 0), -1, 1);
            refused("turned of " + c + ", a minute, too", x -> x.turned(c, 20), -1, 1);
            refused("up of " + c, x -> x.up(c, 0), -1, 1);
            refused("up of " + c + ", a minute, too", x -> x.up(c, -1), -1, 1);
            refused("cheese " + c, x -> x.cheese(c, 0), -1, 1);
            refused("vein of " + c, x -> x.vein(c, 0), -1, 1);
            refused("cause of " + c, x -> x.cause(c, 0), -1, 1);
        }
        for (int m : new int[] {LEAST, -1, 20, 240, MOST}) {
            refused("turned in " + m, x -> x.turned(2, m), -1, 2);
            refused("up in " + m, x -> x.up(2, m), -1, 2);
        }
        for (int i : new int[] {LEAST, -1, 7, 20, MOST}) {
            refused("cheese what " + i, x -> x.cheese(0, i), -1, 1);
        }
        for (int i : new int[] {LEAST, -1, 20, MOST}) {
            refused("vein " + i, x -> x.vein(0, i), -1, 1);
            refused("cause " + i, x -> x.cause(0, i), -1, 1);
        }
        refused("vein of as many", x -> x.vein(1, x.cheese(1, 1)), -1, 1);
        refused("cause of as many", x -> x.cause(1, x.cheese(1, 1)), -1, 1);
    }

    private static void whatCouldBe() {
        for (int e : new int[] {LEAST, -1, 11, 20, MOST}) {
            refused("without " + e, x -> x.without(e), NO_TOTAL, 1);
        }
        refused("without as many", x -> x.without(x.size(2) + x.size(3)), NO_TOTAL, 1);
        for (int s : new int[] {LEAST, -1, 2, 4, MOST}) {
            refused("fits " + s, x -> x.fits(s), -1, 1);
            refused("by " + s, x -> x.by(s), -1, 1);
        }
        for (int v : new int[] {LEAST, -1, 65537, MOST}) {
            refused("nights of SEED " + v, x -> x.nights(v, 1, 1), NO_TOTAL, 2);
        }
        for (int n : new int[] {LEAST, -1, 0, 9, MOST}) {
            refused("nights " + n, x -> x.nights(1, n, 1), NO_TOTAL, 2);
        }
        for (int clouds : new int[] {LEAST, -1, 7, MOST}) {
            refused("nights of clouds " + clouds, x -> x.nights(1, 1, clouds), NO_TOTAL, 2);
        }
    }

    private static void calls() {
        for (int i : new int[] {LEAST, -1, 3, 6, 32, MOST}) {
            refused("call " + i, x -> truth(x.call(i, true)), 0, 1);
            refused("call " + i + " not", x -> truth(x.call(i, false)), 0, 1);
        }
        leavesAll("call not made", Past.BARE, x -> truth(x.call(0, false)), 0, 5);
        leavesAll("call not made", Past.MOVED, x -> truth(x.call(2, false)), 0, 5);
        leavesAll("call made", Past.MOVED, x -> truth(x.call(0, true)), 0, 5);
        leavesAll("call made", Past.FULL, x -> truth(x.call(2, true)), 0, 5);
        leavesAll("call not any more", Past.FULL, x -> truth(x.call(1, false)), 0, 5);
    }

    private static void clouds() {
        int[][] wrong = {{-1, 1}, {-1, -1}, {20, 21}, {20, 20}, {19, 21}, {19, 19}, {5, 4}, {0, 0}, {0, 21}, {LEAST, 1}, {1, LEAST},
            {1, MOST}, {MOST, LEAST}, {MOST, MOST}};
        for (int[] w : wrong) {
            refused("cloud " + w[0] + " to " + w[1], x -> truth(x.cloud(w[0], w[1])), 0, 2);
        }
        leavesAll("a seventh", Past.FULL, x -> truth(x.cloud(0, 20)), 0, 3);
        leavesAll("a seventh drawn", Past.FULL, EclipseCheese::draw, -1, 3);
    }

    private static void otherActs() {
        leavesAll("lift", Past.BARE, x -> truth(x.lift()), 0, 6);
        leavesAll("undo", Past.BARE, x -> truth(x.undo()), 0, 6);
        for (int v : new int[] {LEAST, -1, 65537, MOST}) {
            refused("seed " + v, x -> truth(x.seed(v)), 0, 2);
        }
    }

    private static void marks() {
        leavesAll("a fourth mark", Past.FULL, EclipseCheese::mark, -1, 3);
        leavesAll("back of none", Past.BARE, x -> truth(x.back(0)), 0, 1);
        leavesAll("back of one", Past.MOVED, x -> truth(x.back(1)), 0, 1);
        for (int mark : new int[] {LEAST, -1, 3, 12, MOST}) {
            refused("back " + mark, x -> truth(x.back(mark)), 0, 1);
        }
    }

    private static void events() {
        for (int e : new int[] {LEAST, -1, 11, 20, MOST}) {
            refused("event " + e, x -> x.event(e, 0), -1, 1);
        }
        refused("event of as many", x -> x.event(x.size(2) + x.size(3), 0), -1, 1);
        for (int what : new int[] {LEAST, -1, 4, MOST}) {
            refused("event what " + what, x -> x.event(0, what), -1, 1);
        }
    }

    /* "TROUBLE of the latest call that may be refused (those of which a number is told here)". */
    private static void whatSetsNoTrouble() {
        int[] troubles = {0, 1, 2, 3, 4, 5, 6};
        for (int trouble : troubles) {
            EclipseCheese x = made(Past.FULL);
            leave(x, trouble);
            int where = x.where();
            CHECK.same("where", where, trouble == 4 ? 4 : -1);
            x.fault();
            x.where();
            x.size(0);
            x.size(-1);
            x.size(13);
            Check.seen(x, 0);
            Check.seen(x, -1);
            Check.seen(x, 8);
            x.trouble();
            CHECK.same("trouble stays", x.trouble(), trouble);
            for (int i = 0; i < 46; i++) {
                x.feed(i, i, i, i, i);
            }
            CHECK.same("feed leaves it", x.trouble(), trouble);
            CHECK.same("where stays", x.where(), where);
        }
    }

    private static void leave(EclipseCheese x, int trouble) {
        switch (trouble) {
            case 1 -> x.back(3);
            case 2 -> x.sky(20);
            case 3 -> x.mark();
            case 4 -> x.alp(4);
            case 5 -> x.call(0, true);
            case 6 -> {
                x.back(0);
                x.undo();
            }
            default -> x.total();
        }
        CHECK.same("trouble", x.trouble(), trouble);
    }

    private static void asks(String what, ToIntFunction<EclipseCheese> call) {
        for (Past past : new Past[] {Past.BARE, Past.MOVED, Past.FULL}) {
            EclipseCheese x = made(past);
            x.back(7);
            int answer = call.applyAsInt(x);
            CHECK.same(what + " trouble", x.trouble(), 0);
            CHECK.same(what + " again", call.applyAsInt(x), answer);
            CHECK.same(what + " of a twin", call.applyAsInt(made(past)), answer);
            CHECK.same(what + " of " + past + " leaves all as it was", all(x).equals(all(made(past))), true);
        }
    }

    /* What could be leaves what is; a call that isn't refused leaves TROUBLE 0. */
    private static void whatOnlyAsks() {
        asks("sky", x -> x.sky(19));
        asks("light", x -> x.light(1, 19, true));
        asks("changes", x -> x.changes(1, true));
        asks("change", x -> x.change(1, 0));
        asks("peak", EclipseCheese::peak);
        asks("due", x -> x.due(19));
        asks("awake", x -> x.awake(3, 19));
        asks("notices", x -> x.notices(3, 1, 19));
        asks("work", x -> x.work(3, 3));
        asks("turned", x -> x.turned(2, 19));
        asks("up", x -> x.up(2, 19));
        asks("cheese", x -> x.cheese(2, 6));
        asks("vein", x -> x.vein(1, 0));
        asks("cause", x -> x.cause(1, 0));
        asks("total", EclipseCheese::total);
        asks("wake", EclipseCheese::wake);
        asks("wakeTotal", EclipseCheese::wakeTotal);
        asks("fewest", EclipseCheese::fewest);
        asks("fewestBy", EclipseCheese::fewestBy);
        asks("calls", EclipseCheese::calls);
        for (int i = 0; i < 4; i++) {
            int t = i;
            asks("worth", x -> x.worth(t));
            asks("without", x -> x.without(t));
            asks("event", x -> x.event(4, t));
            asks("nights", x -> x.nights(65536, 8, 2 * t));
        }
        for (int i = 0; i < 2; i++) {
            int s = i;
            asks("fits", x -> x.fits(s));
            asks("by", x -> x.by(s));
        }
        asks("without the last", x -> x.without(x.size(2) + x.size(3) - 1));
    }
}

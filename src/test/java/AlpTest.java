/** Promises 1 to 5 and, without an ALP, every call that may be refused. */
public final class AlpTest {
    private static final Check CHECK = new Check("AlpTest");
    private static final String SOUND = "alp minutes 10 huts 1 prices 1,1,1,1,1;cheese a hut 0";

    public static void main(String[] args) {
        newObject();
        refusedWithoutAlp();
        feeds();
        bytesHighestFirst();
        tells();
        tellsAnew();
        faultAndWhere();
        CHECK.end();
    }

    private static void newObject() {
        EclipseCheese x = new EclipseCheese();
        CHECK.same("trouble", x.trouble(), 0);
        CHECK.same("fault", x.fault(), 0);
        CHECK.same("where", x.where(), -1);
        for (int what = 0; what <= 12; what++) {
            CHECK.same("size " + what, x.size(what), 0);
        }
        CHECK.same("led", Check.seen(x, 0), Check.THROWN);
    }

    private static void refusedWithoutAlp() {
        EclipseCheese x = new EclipseCheese();
        CHECK.refused("sky", x, x.sky(0), -1, 1);
        CHECK.refused("light", x, x.light(0, 0, false), -1, 1);
        CHECK.refused("changes", x, x.changes(0, true), -1, 1);
        CHECK.refused("change", x, x.change(0, 0), -1, 1);
        CHECK.refused("peak", x, x.peak(), -1, 1);
        CHECK.refused("due", x, x.due(-1), -1, 1);
        CHECK.refused("awake", x, x.awake(0, 0), -1, 1);
        CHECK.refused("notices", x, x.notices(0, 0, 0), -1, 1);
        CHECK.refused("work", x, x.work(0, 0), -1, 1);
        CHECK.refused("worth", x, x.worth(0), -100000, 1);
        CHECK.refused("turned", x, x.turned(0, 0), -1, 1);
        CHECK.refused("up", x, x.up(0, 0), -1, 1);
        CHECK.refused("cheese", x, x.cheese(0, 0), -1, 1);
        CHECK.refused("vein", x, x.vein(0, 0), -1, 1);
        CHECK.refused("cause", x, x.cause(0, 0), -1, 1);
        CHECK.refused("total", x, x.total(), -100000, 1);
        CHECK.refused("without", x, x.without(0), -100000, 1);
        CHECK.refused("wake", x, x.wake(), -1, 1);
        CHECK.refused("wakeTotal", x, x.wakeTotal(), -100000, 1);
        CHECK.refused("fewest", x, x.fewest(), -1, 1);
        CHECK.refused("fewestBy", x, x.fewestBy(), -1, 1);
        CHECK.refused("fits", x, x.fits(0), -1, 1);
        CHECK.refused("by", x, x.by(0), -1, 1);
        CHECK.refused("nights", x, x.nights(-1, 0, 9), -100000, 1);
        CHECK.refused("call", x, x.call(0, true), 1);
        CHECK.refused("calls", x, x.calls(), -1, 1);
        CHECK.refused("cloud", x, x.cloud(5, 1), 1);
        CHECK.refused("draw", x, x.draw(), -1, 1);
        CHECK.refused("lift", x, x.lift(), 6);
        CHECK.refused("seed", x, x.seed(-1), 1);
        CHECK.refused("undo", x, x.undo(), 6);
        CHECK.refused("mark", x, x.mark(), -1, 1);
        CHECK.refused("back", x, x.back(0), 1);
        CHECK.refused("event", x, x.event(0, 0), -1, 1);
        CHECK.same("size 9", x.size(9), 0);
    }

    private static void feeds() {
        EclipseCheese x = new EclipseCheese();
        x.sky(0);
        for (int i = 1; i <= 45; i++) {
            CHECK.same("feed " + i, x.feed(0, 0, 0, 0, 0), 20 * i);
            CHECK.same("tape", x.size(12), 20 * i);
        }
        CHECK.same("feed over", x.feed(0, 0, 0, 0, 0), -1);
        CHECK.same("tape full", x.size(12), 900);
        CHECK.same("feed sets no trouble", x.trouble(), 1);
        String full = SOUND + " ".repeat(900 - SOUND.length());
        EclipseCheese y = new EclipseCheese();
        CHECK.same("900 bytes", Check.feed(y, full), 900);
        CHECK.fine("alp of 900", y, y.alp(900), 1);
    }

    private static void bytesHighestFirst() {
        EclipseCheese x = new EclipseCheese();
        x.feed(0x616c7020, 0x6d696e75, 0x74657320, 0x39202020, 0x20202020);
        CHECK.same("alp", x.alp(20), -1);
        CHECK.same("minutes 9", x.fault(), 4);
        CHECK.same("its place", x.where(), 12);
        x.feed(0x616c70ff, 0, 0, 0, 0);
        CHECK.same("alp", x.alp(20), -1);
        CHECK.same("byte 255", x.fault(), 1);
        CHECK.same("its place", x.where(), 3);
    }

    private static void tells() {
        EclipseCheese x = new EclipseCheese();
        Check.feed(x, SOUND + ";cheese a hut 7");
        int fed = x.size(12);
        CHECK.refused("alp -1", x, x.alp(-1), -1, 2);
        CHECK.refused("alp over", x, x.alp(fed + 1), -1, 2);
        CHECK.refused("alp far over", x, x.alp(Integer.MAX_VALUE), -1, 2);
        CHECK.same("tape stays", x.size(12), fed);
        CHECK.same("no fault", x.fault(), 0);
        CHECK.fine("alp of a part", x, x.alp(SOUND.length()), 1);
        CHECK.same("tape is empty", x.size(12), 0);
        CHECK.same("minutes", x.size(0), 10);
        for (String behind : new String[] {"9", "000", "down", " downy", ";", ",1", "X"}) {
            Check.feed(x, SOUND + behind);
            CHECK.fine("nothing behind n counts: " + behind, x, x.alp(SOUND.length()), 1);
        }
        Check.feed(x, SOUND + " downy");
        CHECK.fine("a WORD that n cuts", x, x.alp(SOUND.length() + 5), 1);
        CHECK.same("is the WORD", x.up(0, 0), 0);
        CHECK.same("cheeses", Check.tell(x, SOUND + ";cheese b hut 0;cheese c hut 0 down"), 3);
    }

    private static void tellsAnew() {
        String turner = ";turner t sees from 0 to 10 hands 1 takes 1 huts 0;call t at 1 for 1 costs 1;almanac 1,2";
        EclipseCheese x = Check.alp(SOUND + turner + ";slice 1;bolt 3");
        x.call(0, true);
        x.seed(5);
        x.cloud(1, 2);
        x.draw();
        x.mark();
        int total = x.total();
        int seed = x.size(9);
        CHECK.same("faulty alp", Check.tell(x, SOUND + ";fog"), -1);
        CHECK.same("the alp stays", x.total(), total);
        int[] stays = {10, 1, 1, 2, 1, 1, 1, 1, 2, seed, 3, 1, 0};
        for (int what = 0; what <= 12; what++) {
            CHECK.same("stays " + what, x.size(what), stays[what]);
        }
        CHECK.same("anew", Check.tell(x, "alp minutes 240 huts 4 prices 9,9,9,9,9;cheese z hut 3"), 1);
        int[] anew = {240, 4, 0, 0, 1, 0, 0, 0, 0, 0, 0, 0, 0};
        for (int what = 0; what <= 12; what++) {
            CHECK.same("anew " + what, x.size(what), anew[what]);
        }
        CHECK.same("no calls", x.calls(), 0);
        CHECK.same("bright again", x.sky(1), 1);
        CHECK.same("total anew", x.total(), 9);
        CHECK.refused("no marks", x, x.back(0), 1);
        CHECK.refused("nothing to undo", x, x.undo(), 6);
    }

    private static void faultAndWhere() {
        EclipseCheese x = new EclipseCheese();
        CHECK.same("faulty", Check.tell(x, SOUND + ";fog"), -1);
        CHECK.same("where", x.where(), SOUND.length() + 1);
        CHECK.same("size and where", x.size(0) + x.where(), SOUND.length() + 1);
        Check.seen(x, 0);
        x.feed(0, 0, 0, 0, 0);
        x.size(99);
        CHECK.same("these may not be refused", x.where(), SOUND.length() + 1);
        CHECK.same("trouble still", x.trouble(), 4);
        CHECK.refused("alp by 2", x, x.alp(21), -1, 2);
        CHECK.same("fault stays", x.fault(), 1);
        CHECK.same("where is gone", x.where(), -1);
        CHECK.same("nothing", x.alp(0), -1);
        CHECK.same("where 0", x.where(), 0);
        CHECK.refused("another call", x, x.total(), -100000, 1);
        CHECK.same("where is gone again", x.where(), -1);
        CHECK.same("sound", Check.tell(x, SOUND), 1);
        CHECK.same("no fault", x.fault(), 0);
        CHECK.same("nowhere", x.where(), -1);
        Check.tell(x, "");
        CHECK.same("where", x.where(), 0);
        CHECK.fine("a call that isn't refused", x, x.total(), 1);
        CHECK.same("nowhere", x.where(), -1);
        CHECK.same("fault", x.fault(), 1);
    }
}

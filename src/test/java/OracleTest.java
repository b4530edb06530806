import java.util.NoSuchElementException;
import java.util.Random;
import java.util.function.IntSupplier;

/** All promises at once: drawn runs of calls, each answer against that of the Oracle. */
public final class OracleTest {
    private static final Check CHECK = new Check("OracleTest");
    private static final int[] EDGES = {-1, 0, 1, 2, 3, 4, 5, 6, 7, 8, 12, 13, 20, 239, 240, 65536, 65537,
        Integer.MIN_VALUE, Integer.MAX_VALUE};

    private final EclipseCheese x = new EclipseCheese();
    private final Oracle oracle = new Oracle();
    private final Random random;
    private final String run;

    private OracleTest(int run) {
        this.run = "run " + run + " ";
        random = new Random(run);
    }

    public static void main(String[] args) {
        int from = args.length > 0 ? Integer.parseInt(args[0]) : 0;
        int runs = args.length > 1 ? Integer.parseInt(args[1]) : 150;
        for (int run = from; run < from + runs; run++) {
            new OracleTest(run).play();
        }
        for (int run = from; run < from + runs * 20; run++) {
            new OracleTest(run).readSpoilt();
        }
        CHECK.end();
    }

    private void readSpoilt() {
        tell(new Alps(random).spoilt());
    }

    private void play() {
        if (random.nextInt(10) == 0) {
            everyCall();
        }
        Alps alps = new Alps(random);
        tell(alps.sound());
        for (int i = 0; i < 12; i++) {
            int acts = random.nextInt(5);
            for (int k = 0; k < acts; k++) {
                act();
            }
            everyCall();
        }
        tell(alps.spoilt());
        everyCall();
    }

    private void tell(String text) {
        for (int i = 0; i < text.length(); i += 20) {
            String twenty = String.format("%-20s", text.substring(i, Math.min(text.length(), i + 20)));
            CHECK.same(run + "feed", Check.feed(x, twenty), oracle.feed(twenty));
        }
        int n = random.nextInt(20) == 0 ? text.length() + 20 : text.length();
        ask("alp of " + text, () -> x.alp(n), () -> oracle.alp(n), -1);
        CHECK.same(run + "fault of " + text, x.fault(), oracle.fault);
        CHECK.same(run + "where of " + text, x.where(), oracle.where());
    }

    private void ask(String what, IntSupplier got, IntSupplier want, int refused) {
        int due;
        try {
            due = want.getAsInt();
            oracle.trouble = 0;
        } catch (Oracle.Refusal r) {
            due = refused;
            oracle.trouble = r.number;
        }
        CHECK.same(run + what, got.getAsInt(), due);
        CHECK.same(run + what + " trouble", x.trouble(), oracle.trouble);
        CHECK.same(run + what + " where", x.where(), oracle.where());
    }

    private static int truth(boolean is) {
        return is ? 1 : 0;
    }

    private int any(int bound) {
        return random.nextInt(12) == 0 ? EDGES[random.nextInt(EDGES.length)] : random.nextInt(Math.max(1, bound));
    }

    private void act() {
        int a = any(oracle.size(0));
        int b = random.nextInt(3) == 0 ? any(oracle.size(0) + 1) : a + 1 + random.nextInt(6);
        int call = any(oracle.size(6));
        boolean is = random.nextInt(3) > 0;
        int v = random.nextBoolean() ? any(20) : random.nextInt(65537);
        int mark = any(oracle.size(11) + 1);
        switch (random.nextInt(10)) {
            case 0, 1, 2 -> ask("call " + call, () -> truth(x.call(call, is)), () -> oracle.call(call, is), 0);
            case 3, 4 -> ask("cloud " + a + " " + b, () -> truth(x.cloud(a, b)), () -> oracle.cloud(a, b), 0);
            case 5 -> ask("draw", x::draw, oracle::draw, -1);
            case 6 -> ask("lift", () -> truth(x.lift()), oracle::lift, 0);
            case 7 -> ask("seed " + v, () -> truth(x.seed(v)), () -> oracle.seed(v), 0);
            case 8 -> ask("undo", () -> truth(x.undo()), oracle::undo, 0);
            default -> {
                if (random.nextBoolean()) {
                    ask("mark", x::mark, oracle::mark, -1);
                } else {
                    ask("back " + mark, () -> truth(x.back(mark)), () -> oracle.back(mark), 0);
                }
            }
        }
    }

    private void everyCall() {
        int hut = any(oracle.size(1));
        int m = any(oracle.size(0));
        int t = any(oracle.size(5));
        int c = any(oracle.size(4));
        int i = any(6);
        boolean seems = random.nextBoolean();
        ask("sky " + m, () -> x.sky(m), () -> oracle.sky(m), -1);
        ask("light " + hut + " " + m, () -> x.light(hut, m, seems), () -> oracle.light(hut, m, seems), -1);
        ask("changes " + hut, () -> x.changes(hut, seems), () -> oracle.changes(hut, seems), -1);
        ask("change " + hut + " " + i, () -> x.change(hut, i), () -> oracle.change(hut, i), -1);
        ask("peak", x::peak, oracle::peak, -1);
        ask("due " + m, () -> x.due(m), () -> oracle.due(m), -1);
        ask("awake " + t + " " + m, () -> x.awake(t, m), () -> oracle.awake(t, m), -1);
        ask("notices " + t + " " + hut + " " + m, () -> x.notices(t, hut, m), () -> oracle.notices(t, hut, m), -1);
        ask("work " + t + " " + i, () -> x.work(t, i), () -> oracle.work(t, i), -1);
        ask("worth " + t, () -> x.worth(t), () -> oracle.worth(t), -100000);
        ask("turned " + c + " " + m, () -> x.turned(c, m), () -> oracle.turned(c, m), -1);
        ask("up " + c + " " + m, () -> x.up(c, m), () -> oracle.up(c, m), -1);
        ask("cheese " + c + " " + i, () -> x.cheese(c, i), () -> oracle.cheese(c, i), -1);
        ask("cheese " + c + " 6", () -> x.cheese(c, 6), () -> oracle.cheese(c, 6), -1);
        ask("vein " + c + " " + i, () -> x.vein(c, i), () -> oracle.vein(c, i), -1);
        ask("cause " + c + " " + i, () -> x.cause(c, i), () -> oracle.cause(c, i), -1);
        ask("total", x::total, oracle::total, -100000);
        couldBe();
        whatIsSeen();
    }

    private void couldBe() {
        int e = any(oracle.size(2) + oracle.size(3));
        int s = any(oracle.size(7));
        int v = any(65537);
        int n = 1 + any(8);
        int clouds = any(7);
        ask("without " + e, () -> x.without(e), () -> oracle.without(e), -100000);
        ask("fits " + s, () -> x.fits(s), () -> oracle.fits(s), -1);
        if (random.nextInt(4) == 0) {
            ask("wake", x::wake, oracle::wake, -1);
            ask("wakeTotal", x::wakeTotal, oracle::wakeTotal, -100000);
            ask("fewest", x::fewest, oracle::fewest, -1);
            ask("fewestBy", x::fewestBy, oracle::fewestBy, -1);
            ask("by " + s, () -> x.by(s), () -> oracle.by(s), -1);
            ask("nights " + v + " " + n + " " + clouds, () -> x.nights(v, n, clouds),
                () -> oracle.nights(v, n, clouds), -100000);
        }
    }

    private void whatIsSeen() {
        int e = any(oracle.size(2) + oracle.size(3));
        int what = any(4);
        int i = any(4);
        ask("calls", x::calls, oracle::calls, -1);
        ask("event " + e + " " + what, () -> x.event(e, what), () -> oracle.event(e, what), -1);
        int due;
        try {
            due = oracle.led(i);
        } catch (NoSuchElementException none) {
            due = Check.THROWN;
        }
        CHECK.same(run + "led " + i, Check.seen(x, i), due);
        for (int k = -1; k <= 13; k++) {
            CHECK.same(run + "size " + k, x.size(k), oracle.size(k));
        }
        CHECK.same(run + "trouble stays", x.trouble(), oracle.trouble);
    }
}

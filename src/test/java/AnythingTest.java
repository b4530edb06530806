import java.util.NoSuchElementException;
import java.util.Random;

/**
 * Any calls with any arguments on any TAPE: no call throws but led(), and that only NoSuchElementException; every answer
 * is one that the call may give (LANGUAGE.md, rules 6 and 7).
 */
public final class AnythingTest {
    private static final Check CHECK = new Check("AnythingTest");
    private static final int CALLS = 41;
    private static final int[] EDGES = {Integer.MIN_VALUE, Integer.MIN_VALUE + 1, -100000, -3, -2, -1, 0, 1, 2, 3, 4, 5, 6, 7, 8, 9, 11,
        12, 13, 14, 19, 20, 21, 31, 32, 33, 63, 64, 65, 238, 239, 240, 241, 255, 256, 880, 899, 900, 901, 65535, 65536, 65537,
        Integer.MAX_VALUE - 1, Integer.MAX_VALUE};

    private final Random random;
    private final EclipseCheese x = new EclipseCheese();

    private AnythingTest(int run) {
        random = new Random(run);
    }

    public static void main(String[] args) {
        for (int run = 0; run < 1000; run++) {
            new AnythingTest(run).play(run);
        }
        CHECK.end();
    }

    private void play(int run) {
        String last = "";
        try {
            if (run % 4 != 0) {
                Check.tell(x, new Alps(random).sound());
            }
            for (int i = 0; i < 150; i++) {
                int call = random.nextInt(CALLS);
                last = "call " + call;
                CHECK.same("run " + run + " " + last + " may answer so", mayAnswer(call, ask(call)), true);
                int trouble = x.trouble();
                CHECK.same("trouble", trouble >= 0 && trouble <= 6, true);
                CHECK.same("where", x.where() == -1 || trouble == 4, true);
            }
        } catch (RuntimeException e) {
            CHECK.same("run " + run + " " + last + " threw " + e, 1, 0);
        }
    }

    private int any() {
        int drawn = random.nextInt(10);
        return drawn == 0 ? random.nextInt() : drawn < 4 ? EDGES[random.nextInt(EDGES.length)] : random.nextInt(12);
    }

    private int bytes() {
        String signs = "alp minutescheesehutcloud to 0123456789;;,,  ";
        int sum = 0;
        for (int i = 0; i < 4; i++) {
            int sign = random.nextInt(9) == 0 ? random.nextInt(256) : signs.charAt(random.nextInt(signs.length()));
            sum = sum << 8 | sign;
        }
        return sum;
    }

    private static boolean mayAnswer(int call, int answer) {
        boolean total = call == 13 || call == 19 || call == 20 || call == 22 || call == 27;
        return total ? answer == -100000 || answer > -5000 : answer >= -2;
    }

    private int ask(int call) {
        return call < 20 ? askWhatIs(call) : call < 28 ? askWhatCouldBe(call) : act(call);
    }

    private int askWhatIs(int call) {
        return switch (call) {
            case 0 -> x.feed(bytes(), bytes(), bytes(), any(), random.nextInt());
            case 1 -> x.alp(random.nextBoolean() ? x.size(12) : any());
            case 2 -> x.fault();
            case 3 -> x.where();
            case 4 -> x.sky(any());
            case 5 -> x.light(any(), any(), random.nextBoolean());
            case 6 -> x.changes(any(), random.nextBoolean());
            case 7 -> x.change(any(), any());
            case 8 -> x.peak();
            case 9 -> x.due(any());
            case 10 -> x.awake(any(), any());
            case 11 -> x.notices(any(), any(), any());
            case 12 -> x.work(any(), any());
            case 13 -> x.worth(any());
            case 14 -> x.turned(any(), any());
            case 15 -> x.up(any(), any());
            case 16 -> x.cheese(any(), any());
            case 17 -> x.vein(any(), any());
            case 18 -> x.cause(any(), any());
            default -> x.total();
        };
    }

    private int askWhatCouldBe(int call) {
        return switch (call) {
            case 20 -> x.without(any());
            case 21 -> x.wake();
            case 22 -> x.wakeTotal();
            case 23 -> x.fewest();
            case 24 -> x.fewestBy();
            case 25 -> x.fits(any());
            case 26 -> x.by(any());
            default -> x.nights(any(), any(), any());
        };
    }

    private int act(int call) {
        return switch (call) {
            case 28 -> x.call(any(), random.nextBoolean()) ? 1 : 0;
            case 29 -> x.calls();
            case 30 -> x.cloud(any(), any()) ? 1 : 0;
            case 31 -> x.draw();
            case 32 -> x.lift() ? 1 : 0;
            case 33 -> x.seed(any()) ? 1 : 0;
            case 34 -> x.undo() ? 1 : 0;
            case 35 -> x.mark();
            case 36 -> x.back(any()) ? 1 : 0;
            case 37 -> x.event(any(), any());
            case 38 -> led(any());
            case 39 -> x.size(any());
            default -> x.trouble();
        };
    }

    private int led(int i) {
        try {
            return x.led(i);
        } catch (NoSuchElementException none) {
            return 0;
        }
    }
}

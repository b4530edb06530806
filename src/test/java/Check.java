import java.nio.charset.StandardCharsets;
import java.util.NoSuchElementException;

/** What the tests share: feeding of texts, comparison of answers, the exit code. */
final class Check {
    /** What seen() answers where led() throws. */
    static final int THROWN = -777;

    private final String name;
    private int asked;
    private int wrong;

    Check(String name) {
        this.name = name;
    }

    void same(String what, long got, long want) {
        asked++;
        if (got != want) {
            wrong++;
            if (wrong <= 40) {
                System.out.println(name + ": " + what + " answered " + got + ", due is " + want);
            }
        }
    }

    void same(String what, boolean got, boolean want) {
        same(what, got ? 1 : 0, want ? 1 : 0);
    }

    /** An answer, and the TROUBLE behind it. */
    void refused(String what, EclipseCheese x, long got, long want, int trouble) {
        same(what, got, want);
        same(what + " trouble", x.trouble(), trouble);
    }

    void refused(String what, EclipseCheese x, boolean got, int trouble) {
        refused(what, x, got ? 1 : 0, 0, trouble);
    }

    void fine(String what, EclipseCheese x, long got, long want) {
        refused(what, x, got, want, 0);
    }

    void fine(String what, EclipseCheese x, boolean got) {
        refused(what, x, got ? 1 : 0, 1, 0);
    }

    void end() {
        System.out.println(name + ": " + asked + " answers, " + wrong + " wrong");
        if (wrong != 0) {
            System.exit(1);
        }
    }

    static int seen(EclipseCheese x, int i) {
        try {
            return x.led(i);
        } catch (NoSuchElementException e) {
            return THROWN;
        }
    }

    /** Feeds a text, filled up with blanks to a multiple of twenty bytes. */
    static int feed(EclipseCheese x, String text) {
        byte[] bytes = text.getBytes(StandardCharsets.ISO_8859_1);
        int last = x.size(12);
        for (int i = 0; i < bytes.length; i += 20) {
            last = x.feed(number(bytes, i), number(bytes, i + 4), number(bytes, i + 8),
                    number(bytes, i + 12), number(bytes, i + 16));
        }
        return last;
    }

    private static int number(byte[] bytes, int at) {
        int sum = 0;
        for (int i = at; i < at + 4; i++) {
            sum = sum << 8 | (i < bytes.length ? bytes[i] & 255 : 32);
        }
        return sum;
    }

    static int tell(EclipseCheese x, String text) {
        feed(x, text);
        return x.alp(text.length());
    }

    static EclipseCheese alp(String text) {
        EclipseCheese x = new EclipseCheese();
        int cheeses = tell(x, text);
        if (cheeses < 1) {
            throw new IllegalStateException("fault " + x.fault() + " at " + x.where() + " of " + text);
        }
        return x;
    }
}

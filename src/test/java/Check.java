import java.nio.charset.StandardCharsets;
import java.util.NoSuchElementException;
import java.util.function.IntUnaryOperator;
import java.util.function.ToIntFunction;

/** What the tests share: feeding of texts, comparison of answers, the exit code. */
final class Check {
    /** What seen() answers where led() throws. */
    static final int THROWN = -777;

    private final String name;
    private String about = "";
    private int asked;
    private int wrong;

    Check(String name) {
        this.name = name;
    }

    /** What stands ahead of each wrong answer from here on. */
    void about(String words) {
        about = words;
    }

    void same(String what, long got, long want) {
        asked++;
        if (got != want) {
            wrong++;
            if (wrong <= 40) {
                System.out.println(name + ": " + about + what + " answered " + got + ", due is " + want);
            }
        }
    }

    void same(String what, boolean got, boolean want) {
        same(what, got ? 1 : 0, want ? 1 : 0);
    }

    /** An answer, and the TROUBLE behind it. */
    void refused(String what, EclipseCheese x, long got, long want, int trouble) {
        same(what, got, want);
        same(what + " trouble", x.trouble(), trouble);
    }

    void refused(String what, EclipseCheese x, boolean got, int trouble) {
        refused(what, x, got ? 1 : 0, 0, trouble);
    }

    void fine(String what, EclipseCheese x, long got, long want) {
        refused(what, x, got, want, 0);
    }

    void fine(String what, EclipseCheese x, boolean got) {
        refused(what, x, got ? 1 : 0, 1, 0);
    }

    /** The answers of all minutes, a sign each; 2 for -2. */
    void row(String what, EclipseCheese x, IntUnaryOperator asked, String due) {
        StringBuilder got = new StringBuilder();
        for (int m = 0; m < x.size(0); m++) {
            got.append(Math.abs(asked.applyAsInt(m)));
            same(what + " trouble in " + m, x.trouble(), 0);
        }
        same(what + " " + got + " for " + due, got.toString().equals(due), true);
    }

    void sound(String text, int cheeses) {
        EclipseCheese x = new EclipseCheese();
        fine("alp of " + text, x, tell(x, text), cheeses);
        same("fault of " + text, x.fault(), 0);
        same("where of " + text, x.where(), -1);
    }

    /** The place is told by a ^ ahead of it. */
    void fault(int number, String marked) {
        int place = marked.indexOf('^');
        EclipseCheese x = new EclipseCheese();
        refused("alp of " + marked, x, tell(x, marked.replace("^", "")), -1, 4);
        same("fault of " + marked, x.fault(), number);
        same("where of " + marked, x.where(), place);
        same("minutes of " + marked, x.size(0), 0);
    }

    /** A WHOLE at # from least to most; seen, if there is one, answers from the ALP what the WHOLE was. */
    void bounds(String text, int least, int most, ToIntFunction<EclipseCheese> seen) {
        for (int value : new int[] {least, least + 1, most - 1, most}) {
            String told = text.replace("#", Integer.toString(value));
            sound(told, 1);
            if (seen != null) {
                same("seen of " + told, seen.applyAsInt(alp(told)), value);
            }
        }
        if (least > 0) {
            fault(4, text.replace("#", "^" + (least - 1)));
            fault(4, text.replace("#", "^0"));
            fault(4, text.replace("#", "^000"));
        }
        fault(4, text.replace("#", "^" + (most + 1)));
        fault(4, text.replace("#", "^999"));
        fault(1, text.replace("#", "^-1"));
        fault(1, text.replace("#", "^1000"));
    }

    void end() {
        System.out.println(name + ": " + asked + " answers, " + wrong + " wrong");
        if (wrong != 0) {
            System.exit(1);
        }
    }

    static int seen(EclipseCheese x, int i) {
        try {
            return x.led(i);
        } catch (NoSuchElementException e) {
            return THROWN;
        }
    }

    /** Feeds a text, filled up with blanks to a multiple of twenty bytes. */
    static int feed(EclipseCheese x, String text) {
        byte[] bytes = text.getBytes(StandardCharsets.ISO_8859_1);
        int last = x.size(12);
        for (int i = 0; i < bytes.length; i += 20) {
            last = x.feed(number(bytes, i), number(bytes, i + 4), number(bytes, i + 8),
                    number(bytes, i + 12), number(bytes, i + 16));
        }
        return last;
    }

    private static int number(byte[] bytes, int at) {
        int sum = 0;
        for (int i = at; i < at + 4; i++) {
            sum = sum << 8 | (i < bytes.length ? bytes[i] & 255 : 32);
        }
        return sum;
    }

    static int tell(EclipseCheese x, String text) {
        feed(x, text);
        return x.alp(text.length());
    }

    static EclipseCheese alp(String text) {
        EclipseCheese x = new EclipseCheese();
        int cheeses = tell(x, text);
        if (cheeses < 1) {
            throw new IllegalStateException("fault " + x.fault() + " at " + x.where() + " of " + text);
        }
        return x;
    }
}

import java.util.List;
import java.util.Random;

/** Texts that are drawn: sound ones, and ones that are spoilt somewhere. */
final class Alps {
    private final Random random;
    private int minutes;
    private int huts;
    private StringBuilder text;

    Alps(Random random) {
        this.random = random;
    }

    private int below(int n) {
        return random.nextInt(n);
    }

    /** A sound text of at most 900 bytes. */
    String sound() {
        String drawn = tryOne();
        while (drawn.length() > 900) {
            drawn = tryOne();
        }
        return drawn;
    }

    private String tryOne() {
        minutes = below(4) == 0 ? 10 + below(231) : 10 + below(30);
        huts = 1 + below(4);
        text = new StringBuilder("alp minutes " + minutes + " huts " + huts + " prices " + price() + "," + price() + ","
            + price() + "," + price() + "," + price());
        int events = below(15);
        for (int i = 0; i < events; i++) {
            event();
        }
        int cheeses = 1 + below(below(2) == 0 ? 8 : 3);
        for (int i = 0; i < cheeses; i++) {
            text.append(";cheese ").append((char) ('a' + i)).append(" hut ").append(below(huts));
            text.append(below(3) == 0 ? " down" : "");
        }
        if (below(2) == 0) {
            rising(";almanac ");
        }
        int turners = below(6);
        for (int i = 0; i < turners; i++) {
            turner("t" + (char) ('a' + i));
        }
        int calls = turners == 0 ? 0 : below(7);
        for (int i = 0; i < calls; i++) {
            text.append(";call t").append((char) ('a' + below(turners))).append(" at ").append(below(minutes));
            text.append(" for ").append(1 + below(below(2) == 0 ? 60 : 5)).append(" costs ").append(below(4));
        }
        Oracle oracle = new Oracle();
        oracle.read(text.toString());
        int slices = below(5);
        for (int i = 0; i < slices; i++) {
            if (below(3) == 0) {
                rising(";slice ");
            } else {
                cut(oracle.night(oracle.text.events, below(1 << calls), 31).veins.get(below(cheeses)));
            }
        }
        return text.toString();
    }

    /** A slice of a cheese, so that some fit. */
    private void cut(List<Oracle.Vein> veins) {
        if (veins.size() >= 1 && veins.size() <= 8) {
            for (int i = 0; i < veins.size(); i++) {
                text.append(i == 0 ? ";slice " : ",").append(veins.get(i).minute());
            }
        }
    }

    private int price() {
        return below(3) == 0 ? below(100) : below(10);
    }

    private void span() {
        int from = below(minutes);
        int to = from + 1 + below(Math.min(12, minutes - from));
        text.append(from).append(" to ").append(below(8) == 0 ? minutes : to);
    }

    private void event() {
        switch (below(6)) {
            case 0 -> text.append(";eclipse ");
            case 1 -> text.append(";lamp ").append(below(huts)).append(' ');
            case 2 -> text.append(";shutter ").append(below(huts)).append(' ');
            case 3 -> {
                text.append(";bolt ").append(below(minutes));
                return;
            }
            default -> text.append(";cloud ");
        }
        span();
    }

    private void rising(String word) {
        text.append(word);
        int minute = below(Math.min(8, minutes));
        text.append(minute);
        int more = below(8);
        for (int i = 0; i < more; i++) {
            minute += 1 + below(5);
            if (minute >= minutes) {
                return;
            }
            text.append(',').append(minute);
        }
    }

    private void turner(String name) {
        String[] kinds = {"sees", "blind", "deaf", "almanac"};
        text.append(";turner ").append(name).append(' ').append(kinds[below(4)]).append(" from ");
        if (below(2) == 0) {
            text.append("0 to ").append(minutes);
        } else {
            span();
        }
        text.append(" hands ").append(1 + below(below(2) == 0 ? 8 : 3));
        text.append(" takes ").append(1 + below(below(3) == 0 ? 20 : 3)).append(" huts ");
        int first = below(huts);
        int many = 1 + below(huts);
        for (int i = 0; i < many; i++) {
            text.append(i == 0 ? "" : ",").append((first + i) % huts);
        }
    }

    /** A sound text in which some bytes or TOKENS are changed, dropped, or told twice. */
    String spoilt() {
        StringBuilder t = new StringBuilder(sound());
        int times = 1 + below(3);
        for (int i = 0; i < times && t.length() > 2; i++) {
            int at = below(t.length());
            int to = Math.min(t.length(), at + 1 + below(20));
            switch (below(8)) {
                case 0 -> t.deleteCharAt(at);
                case 1 -> t.insert(at, t.substring(at, to));
                case 2 -> t.setCharAt(at, " ;,0159azX".charAt(below(10)));
                case 3 -> t.insert(at, " ;,0159azX".charAt(below(10)));
                case 4 -> t.setLength(at);
                case 5 -> swapToken(t);
                case 6 -> repeatLine(t);
                default -> changeNumber(t);
            }
        }
        if (t.length() > 900) {
            t.setLength(900);
        }
        return t.toString();
    }

    private void swapToken(StringBuilder t) {
        String[] words = {"alp", "cloud", "eclipse", "lamp", "shutter", "bolt", "cheese", "almanac", "turner", "call",
            "slice", "down", "to", "ta", "a", "hut", "7", ",", ";", "sees", "huts"};
        String[] parts = t.toString().split("(?<=[ ;,])|(?=[ ;,])");
        parts[below(parts.length)] = words[below(words.length)];
        t.setLength(0);
        t.append(String.join("", parts));
    }

    private void repeatLine(StringBuilder t) {
        String[] lines = t.toString().split(";");
        String line = lines[below(lines.length)];
        int times = 1 + below(9);
        for (int i = 0; i < times; i++) {
            t.append(';').append(line);
        }
    }

    private void changeNumber(StringBuilder t) {
        int at = below(t.length());
        for (int i = at; i < t.length(); i++) {
            if (Character.isDigit(t.charAt(i))) {
                int end = i;
                while (end < t.length() && Character.isDigit(t.charAt(end))) {
                    end++;
                }
                int[] values = {0, 1, 3, 4, 5, 8, 9, 10, 20, 21, 60, 61, 99, 100, 239, 240, 241, 999, 1000, minutes,
                    minutes - 1, minutes + 1, huts, huts - 1};
                t.replace(i, end, "" + values[below(values.length)]);
                return;
            }
        }
    }
}

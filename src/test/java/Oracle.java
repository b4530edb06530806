import java.util.ArrayDeque;
import java.util.ArrayList;
import java.util.Deque;
import java.util.HashMap;
import java.util.List;
import java.util.Map;
import java.util.NoSuchElementException;
import java.util.TreeSet;
import java.util.function.IntUnaryOperator;
import java.util.regex.Matcher;
import java.util.regex.Pattern;

/** The document once more, written from its words by another way: slow, with nothing kept, on the Java library. */
final class Oracle {
    /** Thrown by itself where a call is refused. */
    static final class Refusal extends RuntimeException {
        private static final long serialVersionUID = 1L;
        final int number;

        Refusal(int number) {
            super(null, null, false, false);
            this.number = number;
        }
    }

    /** Thrown by itself where a text has a FAULT. */
    static final class Fault extends RuntimeException {
        private static final long serialVersionUID = 1L;
        final int number;
        final int place;

        Fault(int number, int place) {
            super(null, null, false, false);
            this.number = number;
            this.place = place;
        }
    }

    static final class Text {
        int minutes;
        int huts;
        final List<Integer> prices = new ArrayList<>();
        final List<int[]> events = new ArrayList<>();
        final List<Integer> cheeseHuts = new ArrayList<>();
        final List<Boolean> cheeseDown = new ArrayList<>();
        final Map<String, Integer> cheeseNames = new HashMap<>();
        List<Integer> almanac;
        final Map<String, Integer> turnerNames = new HashMap<>();
        final List<String> turnerKinds = new ArrayList<>();
        final List<int[]> turners = new ArrayList<>();
        final List<List<Integer>> turnerHuts = new ArrayList<>();
        final List<int[]> calls = new ArrayList<>();
        final List<List<Integer>> slices = new ArrayList<>();
    }

    record State(int calls, List<int[]> clouds, int seed) {
    }

    record Vein(int minute, int turner, boolean right) {
    }

    /** What a night brings: of each cheese its veins, of each turner the minutes in which he turns. */
    static final class Outcome {
        final List<List<Vein>> veins = new ArrayList<>();
        final List<TreeSet<Integer>> rounds = new ArrayList<>();
        final List<Integer> missed = new ArrayList<>();
        final List<Integer> cracked = new ArrayList<>();
        final List<Integer> prices = new ArrayList<>();
        int total;
    }

    private static final List<String> EVENTS = List.of("cloud", "eclipse", "lamp", "shutter", "bolt");
    private static final List<String> KEPT = List.of("alp", "cloud", "eclipse", "lamp", "shutter", "bolt", "cheese",
        "almanac", "turner", "call", "slice", "down");

    String tape = "";
    Text text;
    State now = new State(0, List.of(), 0);
    final Deque<State> past = new ArrayDeque<>();
    final List<State> marks = new ArrayList<>();
    int fault;
    int place;
    int trouble;

    // ---- reading

    private static final class Scan {
        final List<String> tokens = new ArrayList<>();
        final List<Integer> places = new ArrayList<>();
        int at;
        Text text;

        Scan(String source) {
            Matcher m = Pattern.compile("[a-z]+|[0-9]+|[^ ]", Pattern.DOTALL).matcher(source);
            while (m.find()) {
                tokens.add(m.group());
                places.add(m.start());
            }
            tokens.add("");
            places.add(source.length());
        }

        String see() {
            return tokens.get(at);
        }

        Fault fault(int number) {
            return new Fault(number, places.get(at));
        }

        boolean skip(String token) {
            if (see().equals(token)) {
                at++;
                return true;
            }
            return false;
        }

        void need(String token) {
            if (!skip(token)) {
                throw fault(1);
            }
        }

        int whole(int low, int high) {
            int v = seeWhole(low, high);
            at++;
            return v;
        }

        int seeWhole(int low, int high) {
            if (!see().matches("[0-9]{1,3}")) {
                throw fault(1);
            }
            int v = Integer.parseInt(see());
            if (v < low || v > high) {
                throw fault(4);
            }
            return v;
        }

        String name() {
            if (!see().matches("[a-z]{1,8}") || KEPT.contains(see())) {
                throw fault(1);
            }
            return see();
        }

        String newName() {
            String name = name();
            if (text.cheeseNames.containsKey(name) || text.turnerNames.containsKey(name)) {
                throw fault(3);
            }
            at++;
            return name;
        }

        List<Integer> rising() {
            List<Integer> list = new ArrayList<>();
            do {
                int low = list.isEmpty() ? 0 : list.get(list.size() - 1) + 1;
                int v = seeWhole(low, text.minutes - 1);
                if (list.size() == 8) {
                    throw fault(5);
                }
                list.add(v);
                at++;
            } while (skip(","));
            return list;
        }

        Text all() {
            do {
                line();
            } while (skip(";"));
            if (!see().isEmpty()) {
                throw fault(1);
            }
            if (text.cheeseHuts.isEmpty()) {
                throw fault(6);
            }
            return text;
        }

        void line() {
            String word = see();
            if (word.equals("down") || !KEPT.contains(word)) {
                throw fault(1);
            }
            if (word.equals("alp")) {
                if (text != null) {
                    throw fault(3);
                }
                at++;
                alp();
                return;
            }
            if (text == null) {
                throw fault(6);
            }
            if (word.equals("almanac") && text.almanac != null) {
                throw fault(3);
            }
            int room = switch (word) {
                case "cheese" -> 8 - text.cheeseHuts.size();
                case "turner" -> 5 - text.turners.size();
                case "call" -> 6 - text.calls.size();
                case "slice" -> 4 - text.slices.size();
                case "almanac" -> 1;
                default -> 14 - text.events.size();
            };
            if (room == 0) {
                throw fault(5);
            }
            at++;
            switch (word) {
                case "cheese" -> cheese();
                case "turner" -> turner();
                case "call" -> call();
                case "slice" -> text.slices.add(rising());
                case "almanac" -> text.almanac = rising();
                default -> event(EVENTS.indexOf(word));
            }
        }

        void alp() {
            text = new Text();
            need("minutes");
            text.minutes = whole(10, 240);
            need("huts");
            text.huts = whole(1, 4);
            need("prices");
            text.prices.add(whole(0, 99));
            for (int i = 0; i < 4; i++) {
                need(",");
                text.prices.add(whole(0, 99));
            }
        }

        void event(int kind) {
            int hut = kind == 2 || kind == 3 ? whole(0, text.huts - 1) : -2;
            int from = whole(0, text.minutes - 1);
            int to = from + 1;
            if (kind != 4) {
                need("to");
                to = whole(from + 1, text.minutes);
            }
            text.events.add(new int[] {kind, hut, from, to});
        }

        void cheese() {
            text.cheeseNames.put(newName(), text.cheeseHuts.size());
            need("hut");
            text.cheeseHuts.add(whole(0, text.huts - 1));
            text.cheeseDown.add(skip("down"));
        }

        void turner() {
            text.turnerNames.put(newName(), text.turners.size());
            if (!List.of("sees", "blind", "deaf", "almanac").contains(see())) {
                throw fault(1);
            }
            text.turnerKinds.add(see());
            at++;
            int[] t = new int[4];
            need("from");
            t[0] = whole(0, text.minutes - 1);
            need("to");
            t[1] = whole(t[0] + 1, text.minutes);
            need("hands");
            t[2] = whole(1, 8);
            need("takes");
            t[3] = whole(1, 20);
            need("huts");
            List<Integer> huts = new ArrayList<>();
            do {
                int hut = seeWhole(0, text.huts - 1);
                if (huts.contains(hut)) {
                    throw fault(3);
                }
                huts.add(hut);
                at++;
            } while (skip(","));
            text.turners.add(t);
            text.turnerHuts.add(huts);
        }

        void call() {
            String name = name();
            if (!text.turnerNames.containsKey(name)) {
                throw fault(2);
            }
            at++;
            int[] c = new int[4];
            c[0] = text.turnerNames.get(name);
            need("at");
            c[1] = whole(0, text.minutes - 1);
            need("for");
            c[2] = whole(1, 60);
            need("costs");
            c[3] = whole(0, 99);
            text.calls.add(c);
        }
    }

    int feed(String twenty) {
        if (tape.length() + 20 > 900) {
            return -1;
        }
        tape += twenty;
        return tape.length();
    }

    void read(String source) {
        text = new Scan(source).all();
    }

    int alp(int n) {
        need(n >= 0 && n <= tape.length(), 2);
        String source = tape.substring(0, n);
        tape = "";
        fault = 0;
        try {
            read(source);
        } catch (Fault f) {
            fault = f.number;
            place = f.place;
            throw new Refusal(4);
        }
        now = new State(0, List.of(), 0);
        past.clear();
        marks.clear();
        return text.cheeseHuts.size();
    }

    int where() {
        return trouble == 4 ? place : -1;
    }

    // ---- refusals

    private static void need(boolean is, int number) {
        if (!is) {
            throw new Refusal(number);
        }
    }

    private void needAlp() {
        need(text != null, 1);
    }

    private void needMinute(int m) {
        need(m >= 0 && m < text.minutes, 2);
    }

    private void needOf(int i, List<?> list) {
        need(i >= 0 && i < list.size(), 1);
    }

    private void needHut(int hut) {
        needAlp();
        need(hut >= 0 && hut < text.huts, 1);
    }

    private void needCheese(int c) {
        needAlp();
        needOf(c, text.cheeseHuts);
    }

    private void needTurner(int t) {
        needAlp();
        needOf(t, text.turners);
    }

    // ---- the light, by definition, of any events

    private List<int[]> events(List<int[]> clouds) {
        List<int[]> all = new ArrayList<>(text.events);
        all.addAll(clouds);
        return all;
    }

    private List<int[]> events() {
        return events(now.clouds);
    }

    private static boolean is(List<int[]> events, int kind, int hut, int m) {
        return events.stream().anyMatch(e -> e[0] == kind && e[1] == hut && e[2] <= m && m < e[3]);
    }

    private static boolean bright(List<int[]> ev, int m) {
        if (is(ev, 1, -2, m)) {
            return false;
        }
        return is(ev, 4, -2, m) || !is(ev, 0, -2, m);
    }

    private static boolean light(List<int[]> ev, int hut, int m, boolean seems) {
        if (seems && is(ev, 2, hut, m)) {
            return true;
        }
        return !is(ev, 3, hut, m) && bright(ev, m);
    }

    private static boolean changes(List<int[]> ev, int hut, int m, boolean seems) {
        return m > 0 && light(ev, hut, m, seems) != light(ev, hut, m - 1, seems);
    }

    private boolean awake(List<int[]> ev, int calls, int t, int m) {
        int[] turner = text.turners.get(t);
        if (turner[0] <= m && m < turner[1]) {
            return true;
        }
        if (text.turnerKinds.get(t).equals("deaf")) {
            return false;
        }
        if (is(ev, 1, -2, m)) {
            return true;
        }
        for (int i = 0; i < text.calls.size(); i++) {
            int[] c = text.calls.get(i);
            if ((calls & 1 << i) != 0 && c[0] == t && c[1] <= m && m <= c[1] + c[2] - 1) {
                return true;
            }
        }
        return false;
    }

    private boolean notices(List<int[]> ev, int t, int hut, int m) {
        return switch (text.turnerKinds.get(t)) {
            case "blind" -> changes(ev, hut, m, false);
            case "almanac" -> text.almanac != null && text.almanac.contains(m);
            default -> changes(ev, hut, m, true);
        };
    }

    // ---- the night

    Outcome night(List<int[]> ev, int calls, int turners) {
        Outcome out = new Outcome();
        int[] busyUntil = new int[text.turners.size()];
        for (int c = 0; c < text.cheeseHuts.size(); c++) {
            out.veins.add(new ArrayList<>());
        }
        for (int t = 0; t < text.turners.size(); t++) {
            out.rounds.add(new TreeSet<>());
        }
        for (int m = 1; m < text.minutes; m++) {
            TreeSet<Integer> lying = new TreeSet<>();
            for (int c = 0; c < text.cheeseHuts.size(); c++) {
                lying.add(c);
            }
            for (int t = 0; t < text.turners.size(); t++) {
                int[] turner = text.turners.get(t);
                if ((turners & 1 << t) == 0 || m < busyUntil[t] || !awake(ev, calls, t, m)) {
                    continue;
                }
                int hands = turner[2];
                for (int c : new ArrayList<>(lying)) {
                    int hut = text.cheeseHuts.get(c);
                    if (hands > 0 && text.turnerHuts.get(t).contains(hut) && notices(ev, t, hut, m)) {
                        hands--;
                        lying.remove(c);
                        out.veins.get(c).add(new Vein(m, t, changes(ev, hut, m, false)));
                        out.rounds.get(t).add(m);
                        busyUntil[t] = m + turner[3];
                    }
                }
            }
        }
        price(out, ev, calls);
        return out;
    }

    private void price(Outcome out, List<int[]> ev, int calls) {
        for (int c = 0; c < text.cheeseHuts.size(); c++) {
            int hut = text.cheeseHuts.get(c);
            int missed = 0;
            int cracked = 0;
            for (int m = 0; m < text.minutes; m++) {
                int minute = m;
                boolean turned = out.veins.get(c).stream().anyMatch(v -> v.minute == minute);
                if (changes(ev, hut, m, false) && !turned) {
                    missed++;
                }
                boolean struck = is(ev, 4, -2, m) && !is(ev, 1, -2, m) && !is(ev, 3, hut, m);
                if (struck && liesUp(out, c, m)) {
                    cracked++;
                }
            }
            int right = (int) out.veins.get(c).stream().filter(Vein::right).count();
            int wrong = out.veins.get(c).size() - right;
            int price = text.prices.get(0) + text.prices.get(1) * right - text.prices.get(2) * missed
                - text.prices.get(3) * cracked - text.prices.get(4) * wrong;
            out.missed.add(missed);
            out.cracked.add(cracked);
            out.prices.add(Math.max(0, price));
            out.total += Math.max(0, price);
        }
        for (int i = 0; i < text.calls.size(); i++) {
            if ((calls & 1 << i) != 0) {
                out.total -= text.calls.get(i)[3];
            }
        }
    }

    private boolean liesUp(Outcome out, int c, int m) {
        long turns = out.veins.get(c).stream().filter(v -> v.minute <= m).count();
        return (turns % 2 == 0) != text.cheeseDown.get(c);
    }

    private int everyone() {
        return (1 << text.turners.size()) - 1;
    }

    private Outcome night() {
        return night(events(), now.calls, everyone());
    }

    // ---- the face

    int sky(int m) {
        needAlp();
        needMinute(m);
        return bright(events(), m) ? 1 : 0;
    }

    int light(int hut, int m, boolean seems) {
        needHut(hut);
        needMinute(m);
        return light(events(), hut, m, seems) ? 1 : 0;
    }

    private List<Integer> changeList(int hut, boolean seems) {
        List<Integer> list = new ArrayList<>();
        for (int m = 0; m < text.minutes; m++) {
            if (changes(events(), hut, m, seems)) {
                list.add(m);
            }
        }
        return list;
    }

    int changes(int hut, boolean seems) {
        needHut(hut);
        return changeList(hut, seems).size();
    }

    int change(int hut, int i) {
        needHut(hut);
        List<Integer> list = changeList(hut, false);
        needOf(i, list);
        return list.get(i);
    }

    private int dueIn(int m) {
        return (int) text.cheeseHuts.stream().filter(hut -> changes(events(), hut, m, false)).count();
    }

    int due(int m) {
        needAlp();
        needMinute(m);
        return dueIn(m);
    }

    int peak() {
        needAlp();
        int best = 0;
        for (int m = 0; m < text.minutes; m++) {
            best = Math.max(best, dueIn(m));
        }
        for (int m = 0; m < text.minutes; m++) {
            if (best > 0 && dueIn(m) == best) {
                return m;
            }
        }
        return -2;
    }

    int awake(int t, int m) {
        needTurner(t);
        needMinute(m);
        return awake(events(), now.calls, t, m) ? 1 : 0;
    }

    int notices(int t, int hut, int m) {
        needTurner(t);
        needHut(hut);
        needMinute(m);
        return notices(events(), t, hut, m) ? 1 : 0;
    }

    int work(int t, int what) {
        needTurner(t);
        need(what >= 0 && what <= 3, 1);
        Outcome out = night();
        if (what == 2) {
            return out.rounds.get(t).size();
        }
        int sum = 0;
        if (what == 3) {
            for (int m = 0; m < text.minutes; m++) {
                sum += awake(events(), now.calls, t, m) ? 1 : 0;
            }
            return sum;
        }
        for (List<Vein> veins : out.veins) {
            sum += (int) veins.stream().filter(v -> v.turner == t && (what == 0 || v.right)).count();
        }
        return sum;
    }

    int worth(int t) {
        needTurner(t);
        return night().total - night(events(), now.calls, everyone() - (1 << t)).total;
    }

    int turned(int c, int m) {
        needCheese(c);
        needMinute(m);
        return night().veins.get(c).stream().filter(v -> v.minute == m).mapToInt(Vein::turner).findFirst().orElse(-2);
    }

    int up(int c, int m) {
        needCheese(c);
        needMinute(m);
        return liesUp(night(), c, m) ? 1 : 0;
    }

    int cheese(int c, int what) {
        needCheese(c);
        need(what >= 0 && what <= 6, 1);
        Outcome out = night();
        int right = (int) out.veins.get(c).stream().filter(Vein::right).count();
        return switch (what) {
            case 0 -> text.cheeseHuts.get(c);
            case 1 -> out.veins.get(c).size();
            case 2 -> right;
            case 3 -> out.missed.get(c);
            case 4 -> out.veins.get(c).size() - right;
            case 5 -> out.cracked.get(c);
            default -> out.prices.get(c);
        };
    }

    int vein(int c, int i) {
        needCheese(c);
        List<Vein> veins = night().veins.get(c);
        needOf(i, veins);
        return veins.get(i).minute;
    }

    int cause(int c, int i) {
        int m = vein(c, i);
        List<int[]> ev = events();
        for (int e = 0; e < ev.size(); e++) {
            if (ev.get(e)[2] == m || ev.get(e)[3] == m) {
                return e;
            }
        }
        return -2;
    }

    int total() {
        needAlp();
        return night().total;
    }

    int without(int e) {
        needAlp();
        List<int[]> ev = events();
        needOf(e, ev);
        ev.remove(e);
        return night(ev, now.calls, everyone()).total - night().total;
    }

    /** The best of all sets by a score: most first, then the fewest, then the least bits; null scores don't count. */
    private static int best(int count, IntUnaryOperator score, int none) {
        int best = none;
        long bestKey = Long.MIN_VALUE;
        for (int bits = (1 << count) - 1; bits >= 0; bits--) {
            int s = score.applyAsInt(bits);
            long key = s * 1000L - Integer.bitCount(bits);
            if (s != Integer.MIN_VALUE && key >= bestKey) {
                bestKey = key;
                best = bits;
            }
        }
        return best;
    }

    int wake() {
        needAlp();
        return best(text.calls.size(), bits -> night(events(), bits, everyone()).total, -2);
    }

    int wakeTotal() {
        int calls = wake();
        return night(events(), calls, everyone()).total;
    }

    int fewestBy() {
        needAlp();
        if (night().missed.stream().anyMatch(n -> n > 0)) {
            return -2;
        }
        return best(text.turners.size(),
            bits -> night(events(), now.calls, bits).missed.stream().allMatch(n -> n == 0) ? 0 : Integer.MIN_VALUE, -2);
    }

    int fewest() {
        int bits = fewestBy();
        return bits == -2 ? -2 : Integer.bitCount(bits);
    }

    private int fitting(Outcome out, int slice) {
        int bits = 0;
        for (int c = 0; c < text.cheeseHuts.size(); c++) {
            if (out.veins.get(c).stream().map(Vein::minute).toList().equals(text.slices.get(slice))) {
                bits |= 1 << c;
            }
        }
        return bits;
    }

    int fits(int slice) {
        needAlp();
        needOf(slice, text.slices);
        return fitting(night(), slice);
    }

    int by(int slice) {
        needAlp();
        needOf(slice, text.slices);
        return best(text.calls.size(),
            bits -> fitting(night(events(), bits, everyone()), slice) != 0 ? 0 : Integer.MIN_VALUE, -2);
    }

    private static int drawn(int seed) {
        return (int) ((75L * seed + 74) % 65537);
    }

    /** SEED behind the draw of a cloud, which comes to the list. */
    private int drawCloud(int seed, List<int[]> clouds) {
        int first = drawn(seed);
        int second = drawn(first);
        int from = first % text.minutes;
        clouds.add(new int[] {0, -2, from, Math.min(text.minutes, from + 1 + second % 20)});
        return second;
    }

    int nights(int seed, int n, int clouds) {
        needAlp();
        need(seed >= 0 && seed <= 65536 && n >= 1 && n <= 8 && clouds >= 0 && clouds <= 6, 2);
        int sum = 0;
        for (int i = 0; i < n; i++) {
            List<int[]> drawn = new ArrayList<>();
            for (int k = 0; k < clouds; k++) {
                seed = drawCloud(seed, drawn);
            }
            sum += night(events(drawn), now.calls, everyone()).total;
        }
        return sum;
    }

    private void act(State next) {
        past.addLast(now);
        if (past.size() > 12) {
            past.removeFirst();
        }
        now = next;
    }

    int call(int i, boolean is) {
        needAlp();
        needOf(i, text.calls);
        need(((now.calls & 1 << i) != 0) != is, 5);
        act(new State(is ? now.calls + (1 << i) : now.calls - (1 << i), now.clouds, now.seed));
        return 1;
    }

    int calls() {
        needAlp();
        return now.calls;
    }

    int cloud(int from, int to) {
        needAlp();
        need(from >= 0 && from < text.minutes && to > from && to <= text.minutes, 2);
        need(now.clouds.size() < 6, 3);
        List<int[]> clouds = new ArrayList<>(now.clouds);
        clouds.add(new int[] {0, -2, from, to});
        act(new State(now.calls, clouds, now.seed));
        return 1;
    }

    int draw() {
        needAlp();
        need(now.clouds.size() < 6, 3);
        List<int[]> clouds = new ArrayList<>(now.clouds);
        int seed = drawCloud(now.seed, clouds);
        act(new State(now.calls, clouds, seed));
        return clouds.get(clouds.size() - 1)[2];
    }

    int lift() {
        need(!now.clouds.isEmpty(), 6);
        act(new State(now.calls, now.clouds.subList(0, now.clouds.size() - 1), now.seed));
        return 1;
    }

    int seed(int v) {
        needAlp();
        need(v >= 0 && v <= 65536, 2);
        now = new State(now.calls, now.clouds, v);
        return 1;
    }

    int undo() {
        need(!past.isEmpty(), 6);
        now = past.removeLast();
        return 1;
    }

    int mark() {
        needAlp();
        need(marks.size() < 3, 3);
        marks.add(now);
        return marks.size() - 1;
    }

    int back(int mark) {
        needOf(mark, marks);
        now = marks.get(mark);
        past.clear();
        return 1;
    }

    int event(int e, int what) {
        needAlp();
        needOf(e, events());
        need(what >= 0 && what <= 3, 1);
        return events().get(e)[what];
    }

    int led(int i) {
        List<Integer> list = new ArrayList<>();
        if (text != null) {
            Outcome out = night();
            for (int c = 0; c < text.cheeseHuts.size(); c++) {
                if (out.missed.get(c) > 0) {
                    list.add(c);
                }
            }
        }
        if (i < 0 || i >= list.size()) {
            throw new NoSuchElementException();
        }
        return list.get(i);
    }

    int size(int what) {
        if (what < 0 || what > 12) {
            return -1;
        }
        if (what == 12) {
            return tape.length();
        }
        if (text == null) {
            return 0;
        }
        return List.of(text.minutes, text.huts, text.events.size(), now.clouds.size(), text.cheeseHuts.size(),
            text.turners.size(), text.calls.size(), text.slices.size(), text.almanac == null ? 0 : text.almanac.size(),
            now.seed, past.size(), marks.size()).get(what);
    }
}

import java.util.Arrays;
import java.util.NoSuchElementException;

/** Cheeses on an alp that must be turned at each change of the light; see README.md. */
public final class EclipseCheese {
    public static final int NONE = -1;

    private static final int ABSENT = -2;
    private static final int NO_TOTAL = -100_000;

    private static final int TAPE_ROOM = 900;
    private static final int FEED_BYTES = 20;
    private static final int MINUTE_ROOM = 240;
    private static final int EVENT_ROOM = 14;
    private static final int CLOUD_ROOM = 6;
    private static final int CHEESE_ROOM = 8;
    private static final int TURNER_ROOM = 5;
    private static final int CALL_ROOM = 6;
    private static final int SLICE_ROOM = 4;
    private static final int LIST_ROOM = 8;
    private static final int ACT_ROOM = 12;
    private static final int MARK_ROOM = 3;
    private static final int NIGHT_ROOM = 8;
    private static final int DRAW_RANGE = 65_537;

    private static final int FINE = 0;
    private static final int NONE_SUCH = 1;
    private static final int BAD_NUMBER = 2;
    private static final int NO_ROOM = 3;
    private static final int FAULTY = 4;
    private static final int NOT_SO = 5;
    private static final int NOTHING_THERE = 6;

    /* The sorts of LINES; the first five are the kinds of EVENTS as event() tells them. */
    private static final int CLOUD = 0;
    private static final int ECLIPSE = 1;
    private static final int LAMP = 2;
    private static final int SHUTTER = 3;
    private static final int BOLT = 4;
    private static final int CHEESE = 5;
    private static final int ALMANAC = 6;
    private static final int TURNER = 7;
    private static final int CALL = 8;
    private static final int SLICE = 9;
    private static final int ALP = 10;

    private static final int SEES = 0;
    private static final int BLIND = 1;
    private static final int DEAF = 2;
    private static final int BY_ALMANAC = 3;

    private final byte[] tape = new byte[TAPE_ROOM];
    private int tapeLength;
    private Alp alp = new Alp();
    private Alp draft = new Alp();
    private final Reader reader = new Reader(tape, draft);
    private boolean hasAlp;

    private final Held now = new Held();
    private final Past past = new Past();

    private final Sky sky = new Sky();
    private boolean skyStands;
    private final Night night = new Night(alp, sky);
    private boolean nightStands;

    /* Where what could be is played out, so that what is stays untouched. */
    private final Held otherHeld = new Held();
    private final Sky otherSky = new Sky();
    private final Night otherNight = new Night(alp, otherSky);

    private int fault;
    private int place;
    private int trouble;

    public EclipseCheese() {
    }

    // ---- the alp

    public int feed(int a, int b, int c, int d, int e) {
        if (tapeLength + FEED_BYTES > TAPE_ROOM) {
            return NONE;
        }
        putBytes(a);
        putBytes(b);
        putBytes(c);
        putBytes(d);
        putBytes(e);
        return tapeLength;
    }

    public int alp(int n) {
        if (n < 0 || n > tapeLength) {
            return refused(BAD_NUMBER);
        }
        boolean sound = reader.readAll(draft, n);
        tapeLength = 0;
        fault = reader.fault;
        place = reader.place;
        if (!sound) {
            return refused(FAULTY);
        }
        Alp old = alp;
        alp = draft;
        draft = old;
        hasAlp = true;
        now.clear();
        past.clear();
        cloudsMoved();
        return answered(alp.cheeseCount);
    }

    public int fault() {
        return fault;
    }

    public int where() {
        return trouble == FAULTY ? place : NONE;
    }

    // ---- light

    public int sky(int minute) {
        if (!hasAlp) {
            return refused(NONE_SUCH);
        }
        if (!isMinute(minute)) {
            return refused(BAD_NUMBER);
        }
        return answered(presentSky().isBright(minute) ? 1 : 0);
    }

    public int light(int hut, int minute, boolean seems) {
        if (!isHut(hut)) {
            return refused(NONE_SUCH);
        }
        if (!isMinute(minute)) {
            return refused(BAD_NUMBER);
        }
        Sky s = presentSky();
        int[] huts = seems ? s.seeming : s.bright;
        return answered(bit(huts[minute], hut));
    }

    public int changes(int hut, boolean seems) {
        if (!isHut(hut)) {
            return refused(NONE_SUCH);
        }
        Sky s = presentSky();
        int[] huts = seems ? s.seemed : s.changed;
        int count = 0;
        for (int m = 0; m < alp.minutes; m++) {
            count += bit(huts[m], hut);
        }
        return answered(count);
    }

    public int change(int hut, int i) {
        if (!isHut(hut)) {
            return refused(NONE_SUCH);
        }
        Sky s = presentSky();
        int count = 0;
        for (int m = 0; m < alp.minutes; m++) {
            if (bit(s.changed[m], hut) == 1) {
                if (count == i) {
                    return answered(m);
                }
                count++;
            }
        }
        return refused(NONE_SUCH);
    }

    public int peak() {
        if (!hasAlp) {
            return refused(NONE_SUCH);
        }
        Sky s = presentSky();
        int most = 0;
        int when = ABSENT;
        for (int m = 0; m < alp.minutes; m++) {
            int many = alp.cheesesIn(s.changed[m]);
            if (many > most) {
                most = many;
                when = m;
            }
        }
        return answered(when);
    }

    public int due(int minute) {
        if (!hasAlp) {
            return refused(NONE_SUCH);
        }
        if (!isMinute(minute)) {
            return refused(BAD_NUMBER);
        }
        return answered(alp.cheesesIn(presentSky().changed[minute]));
    }

    // ---- turners

    public int awake(int turner, int minute) {
        if (!isTurner(turner)) {
            return refused(NONE_SUCH);
        }
        if (!isMinute(minute)) {
            return refused(BAD_NUMBER);
        }
        return answered(presentNight().isAwake(turner, minute) ? 1 : 0);
    }

    public int notices(int turner, int hut, int minute) {
        if (!isTurner(turner) || !isHut(hut)) {
            return refused(NONE_SUCH);
        }
        if (!isMinute(minute)) {
            return refused(BAD_NUMBER);
        }
        return answered(bit(presentNight().noticedHuts(turner, minute), hut));
    }

    public int work(int turner, int what) {
        if (!isTurner(turner)) {
            return refused(NONE_SUCH);
        }
        Night n = presentNight();
        switch (what) {
            case 0:
                return answered(n.turns[turner]);
            case 1:
                return answered(n.rightTurns[turner]);
            case 2:
                return answered(n.rounds[turner]);
            case 3:
                return answered(n.minutesAwake(turner));
            default:
                return refused(NONE_SUCH);
        }
    }

    public int worth(int turner) {
        if (!isTurner(turner)) {
            return refusedTotal(NONE_SUCH);
        }
        otherNight.play(alp, presentSky(), now.calls, allTurners() & ~(1 << turner));
        return answered(presentNight().sum() - otherNight.sum());
    }

    // ---- cheeses

    public int turned(int cheese, int minute) {
        if (!isCheese(cheese)) {
            return refused(NONE_SUCH);
        }
        if (!isMinute(minute)) {
            return refused(BAD_NUMBER);
        }
        return answered(presentNight().turnerOf(cheese, minute));
    }

    public int up(int cheese, int minute) {
        if (!isCheese(cheese)) {
            return refused(NONE_SUCH);
        }
        if (!isMinute(minute)) {
            return refused(BAD_NUMBER);
        }
        return answered(presentNight().liesUp(cheese, minute) ? 1 : 0);
    }

    public int cheese(int c, int what) {
        if (!isCheese(c)) {
            return refused(NONE_SUCH);
        }
        Night n = presentNight();
        switch (what) {
            case 0:
                return answered(alp.cheeseHut[c]);
            case 1:
                return answered(n.right[c] + n.wrong[c]);
            case 2:
                return answered(n.right[c]);
            case 3:
                return answered(n.missed[c]);
            case 4:
                return answered(n.wrong[c]);
            case 5:
                return answered(n.cracked[c]);
            case 6:
                return answered(n.price(c));
            default:
                return refused(NONE_SUCH);
        }
    }

    public int vein(int cheese, int i) {
        int minute = veinMinute(cheese, i);
        return minute == NONE ? refused(NONE_SUCH) : answered(minute);
    }

    public int cause(int cheese, int i) {
        int minute = veinMinute(cheese, i);
        if (minute == NONE) {
            return refused(NONE_SUCH);
        }
        for (int e = 0; e < eventCount(); e++) {
            if (eventFrom(e) == minute || eventTo(e) == minute) {
                return answered(e);
            }
        }
        return answered(ABSENT);
    }

    public int total() {
        return hasAlp ? answered(presentNight().sum()) : refusedTotal(NONE_SUCH);
    }

    // ---- what could be

    public int without(int event) {
        if (!isEvent(event)) {
            return refusedTotal(NONE_SUCH);
        }
        otherSky.build(alp, now, event);
        otherNight.play(alp, otherSky, now.calls, allTurners());
        return answered(otherNight.sum() - presentNight().sum());
    }

    public int wake() {
        return hasAlp ? answered(bestCalls()) : refused(NONE_SUCH);
    }

    public int wakeTotal() {
        if (!hasAlp) {
            return refusedTotal(NONE_SUCH);
        }
        otherNight.play(alp, presentSky(), bestCalls(), allTurners());
        return answered(otherNight.sum());
    }

    public int fewest() {
        if (!hasAlp) {
            return refused(NONE_SUCH);
        }
        int turners = fewestTurners();
        return answered(turners == ABSENT ? ABSENT : Integer.bitCount(turners));
    }

    public int fewestBy() {
        return hasAlp ? answered(fewestTurners()) : refused(NONE_SUCH);
    }

    public int fits(int slice) {
        if (!isSlice(slice)) {
            return refused(NONE_SUCH);
        }
        return answered(presentNight().cheesesWithVeins(alp.slices[slice]));
    }

    public int by(int slice) {
        if (!isSlice(slice)) {
            return refused(NONE_SUCH);
        }
        int best = ABSENT;
        for (int calls = 0; calls <= allCalls(); calls++) {
            if (best == ABSENT || Integer.bitCount(calls) < Integer.bitCount(best)) {
                otherNight.play(alp, presentSky(), calls, allTurners());
                if (otherNight.cheesesWithVeins(alp.slices[slice]) != 0) {
                    best = calls;
                }
            }
        }
        return answered(best);
    }

    public int nights(int seed, int n, int clouds) {
        if (!hasAlp) {
            return refusedTotal(NONE_SUCH);
        }
        if (!isSeed(seed) || n < 1 || n > NIGHT_ROOM || clouds < 0 || clouds > CLOUD_ROOM) {
            return refusedTotal(BAD_NUMBER);
        }
        otherHeld.clear();
        otherHeld.seed = seed;
        int sum = 0;
        for (int i = 0; i < n; i++) {
            otherHeld.clouds = 0;
            for (int c = 0; c < clouds; c++) {
                otherHeld.addDrawn(alp.minutes);
            }
            otherSky.build(alp, otherHeld, NONE);
            otherNight.play(alp, otherSky, now.calls, allTurners());
            sum += otherNight.sum();
        }
        return answered(sum);
    }

    // ---- acts

    public boolean call(int i, boolean is) {
        if (i < 0 || i >= alp.callCount) {
            return refusedAct(NONE_SUCH);
        }
        if ((bit(now.calls, i) == 1) == is) {
            return refusedAct(NOT_SO);
        }
        past.keepAct(now);
        now.calls ^= 1 << i;
        nightStands = false;
        return allowed();
    }

    public int calls() {
        return hasAlp ? answered(now.calls) : refused(NONE_SUCH);
    }

    public boolean cloud(int from, int to) {
        if (!hasAlp) {
            return refusedAct(NONE_SUCH);
        }
        if (!isMinute(from) || to <= from || to > alp.minutes) {
            return refusedAct(BAD_NUMBER);
        }
        if (now.clouds >= CLOUD_ROOM) {
            return refusedAct(NO_ROOM);
        }
        past.keepAct(now);
        now.add(from, to);
        cloudsMoved();
        return allowed();
    }

    public int draw() {
        if (!hasAlp) {
            return refused(NONE_SUCH);
        }
        if (now.clouds >= CLOUD_ROOM) {
            return refused(NO_ROOM);
        }
        past.keepAct(now);
        int from = now.addDrawn(alp.minutes);
        cloudsMoved();
        return answered(from);
    }

    public boolean lift() {
        if (now.clouds == 0) {
            return refusedAct(NOTHING_THERE);
        }
        past.keepAct(now);
        now.clouds--;
        cloudsMoved();
        return allowed();
    }

    public boolean seed(int v) {
        if (!hasAlp) {
            return refusedAct(NONE_SUCH);
        }
        if (!isSeed(v)) {
            return refusedAct(BAD_NUMBER);
        }
        now.seed = v;
        return allowed();
    }

    public boolean undo() {
        if (!past.takeBack(now)) {
            return refusedAct(NOTHING_THERE);
        }
        cloudsMoved();
        return allowed();
    }

    public int mark() {
        if (!hasAlp) {
            return refused(NONE_SUCH);
        }
        int number = past.keepMark(now);
        return number == NONE ? refused(NO_ROOM) : answered(number);
    }

    public boolean back(int mark) {
        if (!past.goBack(now, mark)) {
            return refusedAct(NONE_SUCH);
        }
        cloudsMoved();
        return allowed();
    }

    // ---- what is seen

    public int event(int e, int what) {
        if (!isEvent(e)) {
            return refused(NONE_SUCH);
        }
        boolean told = e < alp.eventCount;
        switch (what) {
            case 0:
                return answered(told ? alp.events[e].kind : CLOUD);
            case 1:
                return answered(told ? alp.events[e].hut : ABSENT);
            case 2:
                return answered(eventFrom(e));
            case 3:
                return answered(eventTo(e));
            default:
                return refused(NONE_SUCH);
        }
    }

    public int led(int i) throws NoSuchElementException {
        Night n = presentNight();
        int count = 0;
        for (int c = 0; c < alp.cheeseCount; c++) {
            if (n.missed[c] > 0) {
                if (count == i) {
                    return c;
                }
                count++;
            }
        }
        throw new NoSuchElementException("no such cheese missed anything");
    }

    public int size(int what) {
        switch (what) {
            case 0:
                return alp.minutes;
            case 1:
                return alp.huts;
            case 2:
                return alp.eventCount;
            case 3:
                return now.clouds;
            case 4:
                return alp.cheeseCount;
            case 5:
                return alp.turnerCount;
            case 6:
                return alp.callCount;
            case 7:
                return alp.sliceCount;
            case 8:
                return alp.almanac.count;
            case 9:
                return now.seed;
            case 10:
                return past.actCount;
            case 11:
                return past.markCount;
            case 12:
                return tapeLength;
            default:
                return NONE;
        }
    }

    public int trouble() {
        return trouble;
    }

    // ---- answers

    private int answered(int answer) {
        trouble = FINE;
        return answer;
    }

    private boolean allowed() {
        trouble = FINE;
        return true;
    }

    private int refused(int number) {
        trouble = number;
        return NONE;
    }

    private int refusedTotal(int number) {
        trouble = number;
        return NO_TOTAL;
    }

    private boolean refusedAct(int number) {
        trouble = number;
        return false;
    }

    // ---- tests of arguments: without an ALP its counts are all 0, so that none passes

    private boolean isMinute(int minute) {
        return minute >= 0 && minute < alp.minutes;
    }

    private boolean isHut(int hut) {
        return hut >= 0 && hut < alp.huts;
    }

    private boolean isTurner(int turner) {
        return turner >= 0 && turner < alp.turnerCount;
    }

    private boolean isCheese(int cheese) {
        return cheese >= 0 && cheese < alp.cheeseCount;
    }

    private boolean isSlice(int slice) {
        return slice >= 0 && slice < alp.sliceCount;
    }

    private boolean isEvent(int event) {
        return event >= 0 && event < eventCount();
    }

    private static boolean isSeed(int v) {
        return v >= 0 && v < DRAW_RANGE;
    }

    // ---- what the calls share

    private static int bit(int bits, int i) {
        return (bits >>> i) & 1;
    }

    private void putBytes(int number) {
        for (int shift = 24; shift >= 0; shift -= 8) {
            tape[tapeLength] = (byte) (number >> shift);
            tapeLength++;
        }
    }

    private void cloudsMoved() {
        skyStands = false;
        nightStands = false;
    }

    private Sky presentSky() {
        if (!skyStands) {
            sky.build(alp, now, NONE);
            skyStands = true;
        }
        return sky;
    }

    private Night presentNight() {
        if (!nightStands) {
            night.play(alp, presentSky(), now.calls, allTurners());
            nightStands = true;
        }
        return night;
    }

    private int allTurners() {
        return (1 << alp.turnerCount) - 1;
    }

    private int allCalls() {
        return (1 << alp.callCount) - 1;
    }

    private int eventCount() {
        return alp.eventCount + now.clouds;
    }

    private int eventFrom(int e) {
        return e < alp.eventCount ? alp.events[e].from : now.from[e - alp.eventCount];
    }

    private int eventTo(int e) {
        return e < alp.eventCount ? alp.events[e].to : now.to[e - alp.eventCount];
    }

    private int veinMinute(int cheese, int i) {
        return isCheese(cheese) ? presentNight().minuteOfVein(cheese, i) : NONE;
    }

    private int bestCalls() {
        int best = 0;
        int most = NO_TOTAL;
        for (int calls = 0; calls <= allCalls(); calls++) {
            otherNight.play(alp, presentSky(), calls, allTurners());
            int sum = otherNight.sum();
            boolean fewer = Integer.bitCount(calls) < Integer.bitCount(best);
            if (sum > most || (sum == most && fewer)) {
                most = sum;
                best = calls;
            }
        }
        return best;
    }

    /* A turner less may miss less, so that all together are asked on their own first. */
    private int fewestTurners() {
        if (presentNight().missesAny()) {
            return ABSENT;
        }
        int best = allTurners();
        for (int turners = 0; turners < allTurners(); turners++) {
            if (Integer.bitCount(turners) < Integer.bitCount(best)) {
                otherNight.play(alp, presentSky(), now.calls, turners);
                if (!otherNight.missesAny()) {
                    best = turners;
                }
            }
        }
        return best;
    }

    /** An EVENT: the minutes from one to ahead of another. */
    private static final class Event {
        int kind;
        int hut;
        int from;
        int to;
    }

    private static final class Turner {
        int kind;
        int from;
        int to;
        int hands;
        int takes;
        int huts;
    }

    private static final class Call {
        int turner;
        int at;
        int lasts;
        int costs;
    }

    /** The rising minutes of a slice or of the almanac. */
    private static final class Minutes {
        int count;
        final int[] at = new int[LIST_ROOM];

        boolean holds(int minute) {
            for (int i = 0; i < count; i++) {
                if (at[i] == minute) {
                    return true;
                }
            }
            return false;
        }
    }

    /** What a text tells. */
    private static final class Alp {
        int minutes;
        int huts;
        final int[] prices = new int[5];
        int eventCount;
        final Event[] events = new Event[EVENT_ROOM];
        int cheeseCount;
        final int[] cheeseHut = new int[CHEESE_ROOM];
        int cheesesUp;
        final Minutes almanac = new Minutes();
        int turnerCount;
        final Turner[] turners = new Turner[TURNER_ROOM];
        int callCount;
        final Call[] calls = new Call[CALL_ROOM];
        int sliceCount;
        final Minutes[] slices = new Minutes[SLICE_ROOM];

        Alp() {
            for (int i = 0; i < EVENT_ROOM; i++) {
                events[i] = new Event();
            }
            for (int i = 0; i < TURNER_ROOM; i++) {
                turners[i] = new Turner();
            }
            for (int i = 0; i < CALL_ROOM; i++) {
                calls[i] = new Call();
            }
            for (int i = 0; i < SLICE_ROOM; i++) {
                slices[i] = new Minutes();
            }
        }

        void clear() {
            minutes = 0;
            huts = 0;
            eventCount = 0;
            cheeseCount = 0;
            cheesesUp = 0;
            almanac.count = 0;
            turnerCount = 0;
            callCount = 0;
            sliceCount = 0;
        }

        int cheesesIn(int hutBits) {
            int count = 0;
            for (int c = 0; c < cheeseCount; c++) {
                count += bit(hutBits, cheeseHut[c]);
            }
            return count;
        }

        int costOf(int callBits) {
            int cost = 0;
            for (int i = 0; i < callCount; i++) {
                if (bit(callBits, i) == 1) {
                    cost += calls[i].costs;
                }
            }
            return cost;
        }
    }

    /** What ACTS change and UNDO and MARKS bring again: CALLS made, clouds that came, SEED. */
    private static final class Held {
        int calls;
        int seed;
        int clouds;
        final int[] from = new int[CLOUD_ROOM];
        final int[] to = new int[CLOUD_ROOM];

        void clear() {
            calls = 0;
            seed = 0;
            clouds = 0;
        }

        void become(Held other) {
            calls = other.calls;
            seed = other.seed;
            clouds = other.clouds;
            for (int i = 0; i < other.clouds; i++) {
                from[i] = other.from[i];
                to[i] = other.to[i];
            }
        }

        void add(int first, int end) {
            if (clouds < CLOUD_ROOM) {
                from[clouds] = first;
                to[clouds] = end;
                clouds++;
            }
        }

        int addDrawn(int minutes) {
            int first = drawBelow(minutes);
            int lasts = 1 + drawBelow(20);
            add(first, Math.min(first + lasts, minutes));
            return first;
        }

        private int drawBelow(int range) {
            seed = (75 * seed + 74) % DRAW_RANGE;
            return range < 1 ? 0 : seed % range;
        }
    }

    /** The latest ACTS, each kept as what was ahead of it, and the MARKS. */
    private static final class Past {
        int actCount;
        final Held[] acts = new Held[ACT_ROOM];
        int markCount;
        final Held[] marks = new Held[MARK_ROOM];

        Past() {
            for (int i = 0; i < ACT_ROOM; i++) {
                acts[i] = new Held();
            }
            for (int i = 0; i < MARK_ROOM; i++) {
                marks[i] = new Held();
            }
        }

        void clear() {
            actCount = 0;
            markCount = 0;
        }

        void keepAct(Held held) {
            if (actCount == ACT_ROOM) {
                dropOldestAct();
            }
            acts[actCount].become(held);
            actCount++;
        }

        private void dropOldestAct() {
            Held oldest = acts[0];
            for (int i = 1; i < ACT_ROOM; i++) {
                acts[i - 1] = acts[i];
            }
            acts[ACT_ROOM - 1] = oldest;
            actCount = ACT_ROOM - 1;
        }

        boolean takeBack(Held held) {
            if (actCount == 0) {
                return false;
            }
            actCount--;
            held.become(acts[actCount]);
            return true;
        }

        int keepMark(Held held) {
            if (markCount == MARK_ROOM) {
                return NONE;
            }
            marks[markCount].become(held);
            markCount++;
            return markCount - 1;
        }

        boolean goBack(Held held, int number) {
            if (number < 0 || number >= markCount) {
                return false;
            }
            held.become(marks[number]);
            actCount = 0;
            return true;
        }
    }

    /** The light of all minutes; huts are told as bits. */
    private static final class Sky {
        int minutes;
        int allHuts;
        final boolean[] eclipsed = new boolean[MINUTE_ROOM];
        final boolean[] lightning = new boolean[MINUTE_ROOM];
        final boolean[] clouded = new boolean[MINUTE_ROOM];
        final int[] shuttered = new int[MINUTE_ROOM];
        final int[] bright = new int[MINUTE_ROOM];
        final int[] seeming = new int[MINUTE_ROOM];
        final int[] changed = new int[MINUTE_ROOM];
        final int[] seemed = new int[MINUTE_ROOM];
        /* Only in these minutes may a cheese be turned, missed or cracked: a night skips the others. */
        int stirCount;
        final int[] stirs = new int[MINUTE_ROOM];

        void build(Alp alp, Held held, int leftOut) {
            minutes = alp.minutes;
            allHuts = (1 << alp.huts) - 1;
            wipe();
            for (int e = 0; e < alp.eventCount; e++) {
                if (e != leftOut) {
                    layEvent(alp.events[e]);
                }
            }
            for (int c = 0; c < held.clouds; c++) {
                if (alp.eventCount + c != leftOut) {
                    layCloud(held.from[c], held.to[c]);
                }
            }
            findLight();
            findStirs(alp.almanac);
        }

        private void wipe() {
            for (int m = 0; m < minutes; m++) {
                eclipsed[m] = false;
                lightning[m] = false;
                clouded[m] = false;
                shuttered[m] = 0;
                seeming[m] = 0;
            }
        }

        private void layCloud(int from, int to) {
            for (int m = from; m < to; m++) {
                clouded[m] = true;
            }
        }

        private void layEvent(Event event) {
            for (int m = event.from; m < event.to; m++) {
                switch (event.kind) {
                    case CLOUD:
                        clouded[m] = true;
                        break;
                    case ECLIPSE:
                        eclipsed[m] = true;
                        break;
                    case LAMP:
                        seeming[m] |= 1 << event.hut;
                        break;
                    case SHUTTER:
                        shuttered[m] |= 1 << event.hut;
                        break;
                    default:
                        lightning[m] = true;
                        break;
                }
            }
        }

        /* The lamps are laid already: what is bright only comes to what seems so. */
        private void findLight() {
            for (int m = 0; m < minutes; m++) {
                bright[m] = isBright(m) ? allHuts & ~shuttered[m] : 0;
                seeming[m] |= bright[m];
                changed[m] = m == 0 ? 0 : bright[m] ^ bright[m - 1];
                seemed[m] = m == 0 ? 0 : seeming[m] ^ seeming[m - 1];
            }
        }

        private void findStirs(Minutes almanac) {
            stirCount = 0;
            for (int m = 0; m < minutes; m++) {
                if (changed[m] != 0 || seemed[m] != 0 || lightning[m] || almanac.holds(m)) {
                    stirs[stirCount] = m;
                    stirCount++;
                }
            }
        }

        boolean isBright(int m) {
            return !eclipsed[m] && (lightning[m] || !clouded[m]);
        }

        int crackingHuts(int m) {
            return lightning[m] && !eclipsed[m] ? allHuts & ~shuttered[m] : 0;
        }
    }

    /** THE NIGHT, played with some CALLS made and some turners there. */
    private static final class Night {
        Alp alp;
        Sky sky;
        int calls;
        /* By minutes: four bits for each of the eight cheeses, the number of its turner and 1. */
        final int[] hands = new int[MINUTE_ROOM];
        final int[] right = new int[CHEESE_ROOM];
        final int[] wrong = new int[CHEESE_ROOM];
        final int[] missed = new int[CHEESE_ROOM];
        final int[] cracked = new int[CHEESE_ROOM];
        final int[] turns = new int[TURNER_ROOM];
        final int[] rightTurns = new int[TURNER_ROOM];
        final int[] rounds = new int[TURNER_ROOM];
        final int[] freeFrom = new int[TURNER_ROOM];

        Night(Alp told, Sky above) {
            alp = told;
            sky = above;
        }

        void play(Alp told, Sky above, int callsMade, int turnersThere) {
            alp = told;
            sky = above;
            calls = callsMade;
            forget();
            int up = alp.cheesesUp;
            for (int i = 0; i < sky.stirCount; i++) {
                int m = sky.stirs[i];
                int done = m == 0 ? 0 : turnAll(m, turnersThere);
                up ^= done;
                judge(m, done, up);
            }
        }

        private void forget() {
            Arrays.fill(hands, 0);
            Arrays.fill(right, 0);
            Arrays.fill(wrong, 0);
            Arrays.fill(missed, 0);
            Arrays.fill(cracked, 0);
            Arrays.fill(turns, 0);
            Arrays.fill(rightTurns, 0);
            Arrays.fill(rounds, 0);
            Arrays.fill(freeFrom, 0);
        }

        private int turnAll(int m, int turnersThere) {
            int done = 0;
            for (int t = 0; t < alp.turnerCount; t++) {
                if (bit(turnersThere, t) == 1 && freeFrom[t] <= m) {
                    int huts = noticedHuts(t, m) & alp.turners[t].huts;
                    if (huts != 0 && isAwake(t, m)) {
                        done |= turnSome(t, m, huts, done);
                    }
                }
            }
            return done;
        }

        private int turnSome(int t, int m, int huts, int done) {
            Turner turner = alp.turners[t];
            int mine = 0;
            int many = 0;
            for (int c = 0; c < alp.cheeseCount && many < turner.hands; c++) {
                if (bit(done, c) == 0 && bit(huts, alp.cheeseHut[c]) == 1) {
                    mine |= 1 << c;
                    many++;
                    hands[m] |= (t + 1) << (4 * c);
                    rightTurns[t] += bit(sky.changed[m], alp.cheeseHut[c]);
                }
            }
            if (many > 0) {
                turns[t] += many;
                rounds[t]++;
                freeFrom[t] = m + turner.takes;
            }
            return mine;
        }

        private void judge(int m, int done, int up) {
            int cracking = sky.crackingHuts(m);
            for (int c = 0; c < alp.cheeseCount; c++) {
                int hut = alp.cheeseHut[c];
                int changes = bit(sky.changed[m], hut);
                int turn = bit(done, c);
                right[c] += turn & changes;
                wrong[c] += turn & ~changes;
                missed[c] += changes & ~turn;
                cracked[c] += bit(up, c) & bit(cracking, hut);
            }
        }

        boolean isAwake(int t, int m) {
            Turner turner = alp.turners[t];
            if (m >= turner.from && m < turner.to) {
                return true;
            }
            if (turner.kind == DEAF) {
                return false;
            }
            return sky.eclipsed[m] || isCalled(t, m);
        }

        private boolean isCalled(int t, int m) {
            for (int i = 0; i < alp.callCount; i++) {
                Call call = alp.calls[i];
                if (bit(calls, i) == 1 && call.turner == t && m >= call.at && m < call.at + call.lasts) {
                    return true;
                }
            }
            return false;
        }

        int noticedHuts(int t, int m) {
            switch (alp.turners[t].kind) {
                case BLIND:
                    return sky.changed[m];
                case BY_ALMANAC:
                    return alp.almanac.holds(m) ? sky.allHuts : 0;
                default:
                    return sky.seemed[m];
            }
        }

        int minutesAwake(int t) {
            int count = 0;
            for (int m = 0; m < alp.minutes; m++) {
                if (isAwake(t, m)) {
                    count++;
                }
            }
            return count;
        }

        int turnerOf(int c, int m) {
            int hand = (hands[m] >>> (4 * c)) & 15;
            return hand == 0 ? ABSENT : hand - 1;
        }

        private boolean isTurned(int c, int m) {
            return turnerOf(c, m) != ABSENT;
        }

        boolean liesUp(int c, int minute) {
            boolean up = bit(alp.cheesesUp, c) == 1;
            for (int m = 0; m <= minute; m++) {
                up ^= isTurned(c, m);
            }
            return up;
        }

        int minuteOfVein(int c, int i) {
            int count = 0;
            for (int m = 0; m < alp.minutes; m++) {
                if (isTurned(c, m)) {
                    if (count == i) {
                        return m;
                    }
                    count++;
                }
            }
            return NONE;
        }

        int cheesesWithVeins(Minutes slice) {
            int fitting = 0;
            for (int c = 0; c < alp.cheeseCount; c++) {
                if (hasJustVeins(c, slice)) {
                    fitting |= 1 << c;
                }
            }
            return fitting;
        }

        private boolean hasJustVeins(int c, Minutes slice) {
            if (right[c] + wrong[c] != slice.count) {
                return false;
            }
            for (int i = 0; i < slice.count; i++) {
                if (!isTurned(c, slice.at[i])) {
                    return false;
                }
            }
            return true;
        }

        boolean missesAny() {
            for (int c = 0; c < alp.cheeseCount; c++) {
                if (missed[c] > 0) {
                    return true;
                }
            }
            return false;
        }

        int price(int c) {
            int[] p = alp.prices;
            int price = p[0] + p[1] * right[c] - p[2] * missed[c] - p[3] * cracked[c] - p[4] * wrong[c];
            return Math.max(price, 0);
        }

        int sum() {
            int sum = -alp.costOf(calls);
            for (int c = 0; c < alp.cheeseCount; c++) {
                sum += price(c);
            }
            return sum;
        }
    }

    /** Reads a text from the left, TOKEN by TOKEN, up to the first FAULT. */
    private static final class Reader {
        private static final int FORM = 1;
        private static final int UNTOLD = 2;
        private static final int AGAIN = 3;
        private static final int BOUNDS = 4;
        private static final int MANY = 5;
        private static final int LACKS = 6;

        private static final int END = 0;
        private static final int WORD = 1;
        private static final int WHOLE = 2;
        private static final int SEMICOLON = 3;
        private static final int COMMA = 4;
        private static final int NO_TOKEN = 5;

        final byte[] text;
        int length;
        int next;

        /* The TOKEN that is looked at. */
        int kind;
        int start;
        long word;
        int value;

        /* The latest WHOLE that was taken, and the two of the latest span. */
        int number;
        int from;
        int to;

        Alp alp;
        boolean alpTold;
        boolean almanacTold;
        final long[] cheeseNames = new long[CHEESE_ROOM];
        final long[] turnerNames = new long[TURNER_ROOM];

        int fault;
        int place;

        Reader(byte[] tape, Alp into) {
            text = tape;
            alp = into;
        }

        boolean readAll(Alp into, int n) {
            alp = into;
            alp.clear();
            alpTold = false;
            almanacTold = false;
            fault = 0;
            place = NONE;
            length = n;
            next = 0;
            step();
            for (int lines = 0; lines <= TAPE_ROOM; lines++) {
                if (!readLine()) {
                    return false;
                }
                if (kind == END) {
                    return alp.cheeseCount > 0 || fail(LACKS);
                }
                if (kind != SEMICOLON) {
                    return fail(FORM);
                }
                step();
            }
            return fail(FORM);
        }

        private boolean fail(int faultNumber) {
            fault = faultNumber;
            place = start;
            return false;
        }

        // TOKENS

        private void step() {
            while (next < length && text[next] == ' ') {
                next++;
            }
            start = next;
            if (next >= length) {
                kind = END;
                return;
            }
            byte sign = text[next];
            if (sign >= 'a' && sign <= 'z') {
                kind = stepWord() <= 8 ? WORD : NO_TOKEN;
            } else if (sign >= '0' && sign <= '9') {
                kind = stepWhole() <= 3 ? WHOLE : NO_TOKEN;
            } else {
                kind = sign == ';' ? SEMICOLON : sign == ',' ? COMMA : NO_TOKEN;
                next++;
            }
        }

        private int stepWord() {
            word = 0;
            while (next < length && text[next] >= 'a' && text[next] <= 'z') {
                word = word * 32 + text[next] - 'a' + 1;
                next++;
            }
            return next - start;
        }

        private int stepWhole() {
            value = 0;
            while (next < length && text[next] >= '0' && text[next] <= '9') {
                value = value * 10 + text[next] - '0';
                next++;
            }
            return next - start;
        }

        private static long packed(String letters) {
            long sum = 0;
            for (int i = 0; i < letters.length(); i++) {
                sum = sum * 32 + letters.charAt(i) - 'a' + 1;
            }
            return sum;
        }

        private boolean seesWord(String letters) {
            return kind == WORD && word == packed(letters);
        }

        private boolean takeWord(String letters) {
            if (!seesWord(letters)) {
                return fail(FORM);
            }
            step();
            return true;
        }

        private boolean seesWhole(int least, int most) {
            if (kind != WHOLE) {
                return fail(FORM);
            }
            return value >= least && value <= most || fail(BOUNDS);
        }

        private boolean takeWhole(int least, int most) {
            if (!seesWhole(least, most)) {
                return false;
            }
            number = value;
            step();
            return true;
        }

        private boolean takeComma() {
            if (kind != COMMA) {
                return fail(FORM);
            }
            step();
            return true;
        }

        private boolean takeHut() {
            return takeWhole(0, alp.huts - 1);
        }

        private boolean takeSpan() {
            if (!takeWhole(0, alp.minutes - 1)) {
                return false;
            }
            from = number;
            if (!takeWord("to") || !takeWhole(from + 1, alp.minutes)) {
                return false;
            }
            to = number;
            return true;
        }

        // LINES

        private static String lineWord(int sort) {
            switch (sort) {
                case CLOUD:
                    return "cloud";
                case ECLIPSE:
                    return "eclipse";
                case LAMP:
                    return "lamp";
                case SHUTTER:
                    return "shutter";
                case BOLT:
                    return "bolt";
                case CHEESE:
                    return "cheese";
                case ALMANAC:
                    return "almanac";
                case TURNER:
                    return "turner";
                case CALL:
                    return "call";
                case SLICE:
                    return "slice";
                default:
                    return "alp";
            }
        }

        private int sortOfWord() {
            for (int sort = CLOUD; sort <= ALP; sort++) {
                if (kind == WORD && word == packed(lineWord(sort))) {
                    return sort;
                }
            }
            return NONE;
        }

        private boolean isToldAgain(int sort) {
            return sort == ALP && alpTold || sort == ALMANAC && almanacTold;
        }

        private boolean isFull(int sort) {
            switch (sort) {
                case ALP:
                case ALMANAC:
                    return false;
                case CHEESE:
                    return alp.cheeseCount >= CHEESE_ROOM;
                case TURNER:
                    return alp.turnerCount >= TURNER_ROOM;
                case CALL:
                    return alp.callCount >= CALL_ROOM;
                case SLICE:
                    return alp.sliceCount >= SLICE_ROOM;
                default:
                    return alp.eventCount >= EVENT_ROOM;
            }
        }

        private boolean readLine() {
            int sort = sortOfWord();
            if (sort == NONE) {
                return fail(FORM);
            }
            if (isToldAgain(sort)) {
                return fail(AGAIN);
            }
            if (isFull(sort)) {
                return fail(MANY);
            }
            if (sort != ALP && !alpTold) {
                return fail(LACKS);
            }
            step();
            switch (sort) {
                case ALP:
                    return readAlp();
                case CHEESE:
                    return readCheese();
                case ALMANAC:
                    almanacTold = true;
                    return readMinutes(alp.almanac);
                case TURNER:
                    return readTurner();
                case CALL:
                    return readCall();
                case SLICE:
                    alp.sliceCount++;
                    return readMinutes(alp.slices[alp.sliceCount - 1]);
                default:
                    return readEvent(sort);
            }
        }

        private boolean readAlp() {
            alpTold = true;
            if (!takeWord("minutes") || !takeWhole(10, MINUTE_ROOM)) {
                return false;
            }
            alp.minutes = number;
            if (!takeWord("huts") || !takeWhole(1, 4)) {
                return false;
            }
            alp.huts = number;
            if (!takeWord("prices")) {
                return false;
            }
            for (int i = 0; i < alp.prices.length; i++) {
                if (i > 0 && !takeComma() || !takeWhole(0, 99)) {
                    return false;
                }
                alp.prices[i] = number;
            }
            return true;
        }

        private boolean readEvent(int eventKind) {
            Event event = alp.events[alp.eventCount];
            event.kind = eventKind;
            event.hut = ABSENT;
            if (eventKind == LAMP || eventKind == SHUTTER) {
                if (!takeHut()) {
                    return false;
                }
                event.hut = number;
            }
            if (eventKind == BOLT) {
                if (!takeWhole(0, alp.minutes - 1)) {
                    return false;
                }
                from = number;
                to = number + 1;
            } else if (!takeSpan()) {
                return false;
            }
            event.from = from;
            event.to = to;
            alp.eventCount++;
            return true;
        }

        private boolean readCheese() {
            if (!seesNewName()) {
                return false;
            }
            int c = alp.cheeseCount;
            cheeseNames[c] = word;
            step();
            if (!takeWord("hut") || !takeHut()) {
                return false;
            }
            alp.cheeseHut[c] = number;
            if (seesWord("down")) {
                step();
            } else {
                alp.cheesesUp |= 1 << c;
            }
            alp.cheeseCount++;
            return true;
        }

        private boolean readTurner() {
            if (!seesNewName()) {
                return false;
            }
            turnerNames[alp.turnerCount] = word;
            Turner turner = alp.turners[alp.turnerCount];
            step();
            turner.kind = turnerKind();
            if (turner.kind == NONE) {
                return fail(FORM);
            }
            step();
            if (!takeWord("from") || !takeSpan()) {
                return false;
            }
            turner.from = from;
            turner.to = to;
            if (!takeWord("hands") || !takeWhole(1, 8)) {
                return false;
            }
            turner.hands = number;
            if (!takeWord("takes") || !takeWhole(1, 20)) {
                return false;
            }
            turner.takes = number;
            alp.turnerCount++;
            return takeWord("huts") && readHuts(turner);
        }

        private int turnerKind() {
            if (seesWord("sees")) {
                return SEES;
            }
            if (seesWord("blind")) {
                return BLIND;
            }
            if (seesWord("deaf")) {
                return DEAF;
            }
            return seesWord("almanac") ? BY_ALMANAC : NONE;
        }

        private boolean readHuts(Turner turner) {
            turner.huts = 0;
            for (int i = 0; i <= TAPE_ROOM; i++) {
                if (!seesWhole(0, alp.huts - 1)) {
                    return false;
                }
                if (bit(turner.huts, value) == 1) {
                    return fail(AGAIN);
                }
                turner.huts |= 1 << value;
                step();
                if (kind != COMMA) {
                    return true;
                }
                step();
            }
            return fail(FORM);
        }

        private boolean readCall() {
            if (!seesName()) {
                return fail(FORM);
            }
            int named = namedTurner();
            if (named == NONE) {
                return fail(UNTOLD);
            }
            step();
            Call call = alp.calls[alp.callCount];
            call.turner = named;
            if (!takeWord("at") || !takeWhole(0, alp.minutes - 1)) {
                return false;
            }
            call.at = number;
            if (!takeWord("for") || !takeWhole(1, 60)) {
                return false;
            }
            call.lasts = number;
            if (!takeWord("costs") || !takeWhole(0, 99)) {
                return false;
            }
            call.costs = number;
            alp.callCount++;
            return true;
        }

        private boolean readMinutes(Minutes list) {
            list.count = 0;
            int least = 0;
            for (int i = 0; i <= LIST_ROOM; i++) {
                if (!seesWhole(least, alp.minutes - 1)) {
                    return false;
                }
                if (i == LIST_ROOM) {
                    return fail(MANY);
                }
                list.at[i] = value;
                list.count++;
                least = value + 1;
                step();
                if (kind != COMMA) {
                    return true;
                }
                step();
            }
            return fail(FORM);
        }

        // NAMES

        private boolean seesName() {
            return kind == WORD && !seesWord("down") && sortOfWord() == NONE;
        }

        private boolean seesNewName() {
            if (!seesName()) {
                return fail(FORM);
            }
            return !isToldCheese() && namedTurner() == NONE || fail(AGAIN);
        }

        private boolean isToldCheese() {
            for (int c = 0; c < alp.cheeseCount; c++) {
                if (cheeseNames[c] == word) {
                    return true;
                }
            }
            return false;
        }

        private int namedTurner() {
            for (int t = 0; t < alp.turnerCount; t++) {
                if (turnerNames[t] == word) {
                    return t;
                }
            }
            return NONE;
        }
    }
}

import java.util.ArrayList;
import java.util.Arrays;
import java.util.List;
import java.util.NoSuchElementException;

/**
 * A desk that keeps promises of services: shares of good answers over spans of ticks, told from
 * counts that come late and twice. The numbered promises of the document say what each call answers.
 */
public final class ShareKeeper {
    public static final int NONE = -1;

    private static final int LAST_TICK = 600;
    private static final int ALL_TICKS = LAST_TICK + 1;
    private static final int WHOLE_SHARE = 1000;

    private static final int SERVICES_LIMIT = 8;
    private static final int SOURCES_LIMIT = 16;
    private static final int PROMISES_LIMIT = 12;
    private static final int ALARMS_LIMIT = 8;
    private static final int CHANGES_LIMIT = 40;
    private static final int PARTS_LIMIT = 10;
    private static final int GRACE_LIMIT = 10;
    private static final int PLAN_LIMIT = 14;

    private static final int LATE_LIMIT = 60;
    private static final int ASKS_LIMIT = 1000;
    private static final int COUNT_NUMBERS = 200;
    private static final int SPAN_LIMIT = 200;
    private static final int RATE_LIMIT = 1000;
    private static final int WORTH_LIMIT = 1000;
    private static final int LARGE_LIMIT = 100000;

    private static final int HISTORY_LAST_TICK = 599;
    private static final int HISTORY_ASKS = 10;
    private static final int HISTORY_GOOD_LIMIT = 300;

    private static final int TAKEN = 0;
    private static final int MALFORMED = 1;
    private static final int AGAIN = 2;
    private static final int TOO_SOON = 3;
    private static final int TOO_LATE = 4;
    private static final int TOO_MANY = 5;

    private static final int WAITING = 0;
    private static final int OUT = 1;
    private static final int SETTLED = 2;

    private final List<Service> services = new ArrayList<>();
    private final List<Source> sources = new ArrayList<>();
    private final List<Promise> promises = new ArrayList<>();
    private final List<Alarm> alarms = new ArrayList<>();
    private final List<Change> changes = new ArrayList<>();
    private final Parts parts = new Parts();
    private final Planner planner = new Planner();
    private final AlarmSearch alarmSearch = new AlarmSearch();
    private int now;
    private int countsTaken;
    private int countsAgain;

    public ShareKeeper() {
    }

    public int service() {
        if (services.size() >= SERVICES_LIMIT) {
            return NONE;
        }
        services.add(new Service());
        return services.size() - 1;
    }

    public int source(int service, int late, int most) {
        Service owner = serviceAt(service);
        if (owner == null || !within(late, 0, LATE_LIMIT) || !within(most, 1, ASKS_LIMIT)
                || sources.size() >= SOURCES_LIMIT) {
            return NONE;
        }
        Source added = new Source(owner, late, most);
        owner.sources.add(added);
        sources.add(added);
        return sources.size() - 1;
    }

    public int count(int source, int number, int tick, int good, int bad) {
        Source teller = sourceAt(source);
        // 1000 - bad instead of good + bad: the sum of two great numbers would wrap around.
        if (teller == null || !within(number, 0, COUNT_NUMBERS - 1) || tick < 0
                || good < 0 || bad < 0 || good > ASKS_LIMIT - bad) {
            return MALFORMED;
        }
        int refusal = teller.refusal(number, tick, good + bad, now);
        if (refusal == TAKEN) {
            teller.take(number, tick, good + bad, bad);
            countsTaken++;
        } else if (refusal == AGAIN) {
            countsAgain++;
        }
        return refusal;
    }

    public int ticks(int n) {
        if (!within(n, 0, LAST_TICK - now)) {
            return NONE;
        }
        now += n;
        return now;
    }

    public int promise(int service, int w, int share, boolean fixed) {
        Service owner = serviceAt(service);
        if (owner == null || !within(w, 1, SPAN_LIMIT) || !within(share, 0, WHOLE_SHARE)
                || promises.size() >= PROMISES_LIMIT) {
            return NONE;
        }
        promises.add(new Promise(owner, w, share, fixed));
        return promises.size() - 1;
    }

    public boolean grace(int promise, int low, int high) {
        Promise kept = promiseAt(promise);
        if (kept == null || low <= now || !within(high, low, LAST_TICK)) {
            return false;
        }
        return kept.leaveOut(low, high);
    }

    public int sum(int service, int low, int high, int what) {
        Service asked = serviceAt(service);
        if (asked == null || low < 0 || !within(high, low, LAST_TICK)) {
            return NONE;
        }
        switch (what) {
            case 0:
                return asked.asksIn(low, high);
            case 1:
                return asked.badIn(low, high);
            case 2:
                return asked.toComeIn(low, high, now);
            default:
                return NONE;
        }
    }

    public int span(int promise, int tick, int what) throws NoSuchElementException {
        Promise kept = promiseAt(promise);
        if (kept == null || !within(tick, 0, LAST_TICK) || !within(what, 0, 7)) {
            throw new NoSuchElementException();
        }
        switch (what) {
            case 0:
                return kept.left(tick);
            case 1:
                return kept.leastLeft(tick, now);
            case 2:
                return kept.mostLeft(tick, now);
            case 3:
                return kept.left(tick) >= 0 ? 1 : 0;
            case 4:
                return kept.verdict(tick, now);
            case 5:
                return kept.settledFrom(tick);
            case 6:
                return kept.asks(tick);
            default:
                return kept.bad(tick);
        }
    }

    public int broken(int promise, int from) {
        Promise kept = promiseAt(promise);
        if (kept == null || !within(from, 0, LAST_TICK)) {
            return NONE;
        }
        return kept.firstBroken(from);
    }

    public int part(int bad) {
        return within(bad, 0, LARGE_LIMIT) ? parts.add(bad) : NONE;
    }

    public int made(int n, int k, int what) {
        int answer = NONE;
        if (within(n, 0, LARGE_LIMIT) && within(k, 1, parts.size()) && parts.fitInto(n)) {
            if (what == 0) {
                answer = parts.leastBad(n, k);
            } else if (what == 1) {
                answer = parts.greatestBad(n, k);
            }
        }
        parts.clear();
        return answer;
    }

    public int alarm(int promise, int a, int b, int r) {
        Promise kept = promiseAt(promise);
        if (kept == null || !within(a, 1, SPAN_LIMIT) || !within(b, 1, a)
                || !within(r, 1, RATE_LIMIT) || alarms.size() >= ALARMS_LIMIT) {
            return NONE;
        }
        alarms.add(new Alarm(kept, a, b, r));
        return alarms.size() - 1;
    }

    public int rings(int alarm, int tick) {
        Alarm set = alarmAt(alarm);
        if (set == null || !within(tick, 0, LAST_TICK)) {
            return NONE;
        }
        return set.ringsIn(set.promise.service, tick) ? 1 : 0;
    }

    public int soonest(int alarm, int m, int e, int what) {
        Alarm set = alarmAt(alarm);
        if (set == null || !isSteady(m, e) || !within(what, 0, 1)) {
            return NONE;
        }
        SteadyHistory history = new SteadyHistory(m, e);
        for (int tick = 0; tick <= HISTORY_LAST_TICK; tick++) {
            if (set.ringsIn(history, tick)) {
                return what == 0 ? tick : history.badIn(0, tick);
            }
        }
        return NONE;
    }

    public int best(int promise, int m, int e, int p) {
        Promise kept = promiseAt(promise);
        if (kept == null || !isSteady(m, e) || !within(p, 0, LARGE_LIMIT)) {
            return NONE;
        }
        return alarmSearch.find(kept, new SteadyHistory(m, e), p, now);
    }

    public int change(int promise, int guess, int worth) {
        if (promiseAt(promise) == null || !within(guess, 0, LARGE_LIMIT)
                || !within(worth, 0, WORTH_LIMIT) || changes.size() >= CHANGES_LIMIT) {
            return NONE;
        }
        changes.add(new Change(promise, guess, worth));
        return changes.size() - 1;
    }

    public boolean let(int change) {
        Change wanted = changeAt(change);
        if (wanted == null || wanted.state != WAITING || roomOf(wanted.promise) < wanted.guess) {
            return false;
        }
        wanted.state = OUT;
        return true;
    }

    public boolean settle(int change, int cost) {
        Change ended = changeAt(change);
        if (ended == null || ended.state != OUT || !within(cost, 0, LARGE_LIMIT)) {
            return false;
        }
        ended.state = SETTLED;
        ended.cost = cost;
        return true;
    }

    public int plan(int promise) {
        if (promiseAt(promise) == null) {
            return NONE;
        }
        planner.clear();
        for (int i = 0; i < changes.size(); i++) {
            Change offered = changes.get(i);
            if (offered.promise == promise && offered.state == WAITING) {
                planner.offer(i, offered.guess, offered.worth);
            }
        }
        return planner.choose(roomOf(promise));
    }

    public int planned(int i) {
        return planner.chosenAt(i);
    }

    public int look(int change, int what) {
        Change seen = changeAt(change);
        if (seen == null) {
            return NONE;
        }
        switch (what) {
            case 0:
                return seen.state;
            case 1:
                return seen.promise;
            case 2:
                return seen.guess;
            case 3:
                return seen.worth;
            case 4:
                return seen.cost;
            default:
                return NONE;
        }
    }

    public int desk(int what) {
        switch (what) {
            case 0:
                return services.size();
            case 1:
                return sources.size();
            case 2:
                return now;
            case 3:
                return promises.size();
            case 4:
                return countsTaken;
            case 5:
                return countsAgain;
            case 6:
                return alarms.size();
            case 7:
                return changes.size();
            case 8:
                return parts.size();
            default:
                return NONE;
        }
    }

    private static boolean within(int value, int low, int high) {
        return value >= low && value <= high;
    }

    private static boolean isSteady(int m, int e) {
        return within(m, 0, HISTORY_GOOD_LIMIT) && within(e, 0, HISTORY_ASKS);
    }

    private Service serviceAt(int number) {
        return number >= 0 && number < services.size() ? services.get(number) : null;
    }

    private Source sourceAt(int number) {
        return number >= 0 && number < sources.size() ? sources.get(number) : null;
    }

    private Promise promiseAt(int number) {
        return number >= 0 && number < promises.size() ? promises.get(number) : null;
    }

    private Alarm alarmAt(int number) {
        return number >= 0 && number < alarms.size() ? alarms.get(number) : null;
    }

    private Change changeAt(int number) {
        return number >= 0 && number < changes.size() ? changes.get(number) : null;
    }

    /** What a promise surely has left at NOW beside the changes that are out. */
    private int roomOf(int promise) {
        Promise kept = promiseAt(promise);
        if (kept == null) {
            return NONE;
        }
        int room = kept.leastLeft(now, now);
        for (int i = 0; i < changes.size(); i++) {
            Change other = changes.get(i);
            if (other.promise == promise && other.state == OUT) {
                room -= other.guess;
            }
        }
        return room;
    }

    /** Asks and bad answers by ticks; ticks outside of it hold none. */
    private interface History {
        int asksIn(int low, int high);

        int badIn(int low, int high);
    }

    /** What the sources of a service have told, added up by ticks as it comes. */
    private static final class Service implements History {
        final List<Source> sources = new ArrayList<>();
        private final int[] asks = new int[ALL_TICKS];
        private final int[] bad = new int[ALL_TICKS];

        void add(int tick, int moreAsks, int moreBad) {
            if (tick >= 0 && tick < ALL_TICKS) {
                asks[tick] += moreAsks;
                bad[tick] += moreBad;
            }
        }

        public int asksIn(int low, int high) {
            return total(asks, low, high);
        }

        public int badIn(int low, int high) {
            return total(bad, low, high);
        }

        int asksAt(int tick) {
            return tick >= 0 && tick < ALL_TICKS ? asks[tick] : 0;
        }

        int badAt(int tick) {
            return tick >= 0 && tick < ALL_TICKS ? bad[tick] : 0;
        }

        int toComeIn(int low, int high, int now) {
            int all = 0;
            for (int tick = Math.max(low, 0); tick <= high && tick <= LAST_TICK; tick++) {
                all += toComeAt(tick, now);
            }
            return all;
        }

        int toComeAt(int tick, int now) {
            int all = 0;
            for (int i = 0; i < sources.size(); i++) {
                all += sources.get(i).toCome(tick, now);
            }
            return all;
        }

        /** The greatest LATE of the sources. */
        int latest() {
            int latest = 0;
            for (int i = 0; i < sources.size(); i++) {
                latest = Math.max(latest, sources.get(i).late);
            }
            return latest;
        }

        private static int total(int[] row, int low, int high) {
            int all = 0;
            for (int tick = Math.max(low, 0); tick <= high && tick < row.length; tick++) {
                all += row[tick];
            }
            return all;
        }
    }

    private static final class Source {
        final int late;
        private final Service service;
        private final int most;
        private final int[] came = new int[ALL_TICKS];
        private final boolean[] taken = new boolean[COUNT_NUMBERS];

        Source(Service service, int late, int most) {
            this.service = service;
            this.late = late;
            this.most = most;
        }

        /** Why a well-formed count is not taken, or TAKEN. */
        int refusal(int number, int tick, int asks, int now) {
            if (number >= 0 && number < COUNT_NUMBERS && taken[number]) {
                return AGAIN;
            }
            if (tick < 0 || tick > now || tick >= ALL_TICKS) {
                return TOO_SOON;
            }
            if (!isOpen(tick, now)) {
                return TOO_LATE;
            }
            return came[tick] + asks > most ? TOO_MANY : TAKEN;
        }

        void take(int number, int tick, int asks, int bad) {
            if (number >= 0 && number < COUNT_NUMBERS && tick >= 0 && tick < ALL_TICKS) {
                taken[number] = true;
                came[tick] += asks;
                service.add(tick, asks, bad);
            }
        }

        int toCome(int tick, int now) {
            if (tick < 0 || tick >= ALL_TICKS || !isOpen(tick, now)) {
                return 0;
            }
            return most - came[tick];
        }

        private boolean isOpen(int tick, int now) {
            return tick >= now - late;
        }
    }

    private static final class Promise {
        final Service service;
        private final int width;
        private final int share;
        private final boolean fixed;
        private final boolean[] leftOut = new boolean[ALL_TICKS];
        private int graceRows;

        Promise(Service service, int width, int share, boolean fixed) {
            this.service = service;
            this.width = width;
            this.share = share;
            this.fixed = fixed;
        }

        boolean leaveOut(int low, int high) {
            if (graceRows >= GRACE_LIMIT) {
                return false;
            }
            graceRows++;
            for (int tick = Math.max(low, 0); tick <= high && tick < ALL_TICKS; tick++) {
                leftOut[tick] = true;
            }
            return true;
        }

        /** The thousandths of the asks that may be bad. */
        int slack() {
            return WHOLE_SHARE - share;
        }

        int asks(int tick) {
            int all = 0;
            int last = lastOfSpan(tick);
            for (int t = firstOfSpan(tick); t <= last; t++) {
                all += asksAt(t);
            }
            return all;
        }

        int bad(int tick) {
            int all = 0;
            int last = lastOfSpan(tick);
            for (int t = firstOfSpan(tick); t <= last; t++) {
                all += badAt(t);
            }
            return all;
        }

        int left(int tick) {
            return leftOf(asks(tick), bad(tick));
        }

        int leastLeft(int tick, int now) {
            int toCome = toCome(tick, now);
            return leftOf(asks(tick) + toCome, bad(tick) + toCome);
        }

        int mostLeft(int tick, int now) {
            return leftOf(asks(tick) + toCome(tick, now), bad(tick));
        }

        /** 0 open, 1 surely whole, 2 surely broken. */
        int verdict(int tick, int now) {
            if (leastLeft(tick, now) >= 0) {
                return 1;
            }
            return mostLeft(tick, now) < 0 ? 2 : 0;
        }

        int settledFrom(int tick) {
            if (service.sources.isEmpty()) {
                return 0;
            }
            int first = firstOfSpan(tick);
            for (int t = lastOfSpan(tick); t >= first; t--) {
                if (isIn(t)) {
                    return t + service.latest() + 1;
                }
            }
            return 0;
        }

        /** Both ends of the span only go up with the tick, so each tick is added and dropped once. */
        int firstBroken(int from) {
            int asks = 0;
            int bad = 0;
            int start = firstOfSpan(from);
            int next = start;
            for (int tick = from; tick <= LAST_TICK; tick++) {
                int first = firstOfSpan(tick);
                int last = lastOfSpan(tick);
                for (; next <= last; next++) {
                    asks += asksAt(next);
                    bad += badAt(next);
                }
                for (; start < first; start++) {
                    asks -= asksAt(start);
                    bad -= badAt(start);
                }
                if (leftOf(asks, bad) < 0) {
                    return tick;
                }
            }
            return NONE;
        }

        private int firstOfSpan(int tick) {
            if (!fixed) {
                return Math.max(tick - width + 1, 0);
            }
            return width > 0 ? tick - tick % width : tick;
        }

        private int lastOfSpan(int tick) {
            return fixed ? Math.min(firstOfSpan(tick) + width - 1, LAST_TICK) : tick;
        }

        private boolean isIn(int tick) {
            return tick >= 0 && tick < ALL_TICKS && !leftOut[tick];
        }

        private int asksAt(int tick) {
            return isIn(tick) ? service.asksAt(tick) : 0;
        }

        private int badAt(int tick) {
            return isIn(tick) ? service.badAt(tick) : 0;
        }

        private int toCome(int tick, int now) {
            int all = 0;
            int last = lastOfSpan(tick);
            for (int t = firstOfSpan(tick); t <= last; t++) {
                if (isIn(t)) {
                    all += service.toComeAt(t, now);
                }
            }
            return all;
        }

        /** Below 0 just when the span is not whole: the cut part is less than one bad answer. */
        private int leftOf(int asks, int bad) {
            return (int) ((long) asks * slack() / WHOLE_SHARE) - bad;
        }
    }

    /** The parts that wait for the whole that is made of them. */
    private static final class Parts {
        private static final int FIRST_STEP = 1 << 16;

        private final int[] bad = new int[PARTS_LIMIT];
        private int size;

        int size() {
            return size;
        }

        void clear() {
            size = 0;
        }

        int add(int badOnes) {
            if (size < 0 || size >= PARTS_LIMIT) {
                return NONE;
            }
            bad[size] = badOnes;
            size++;
            return size;
        }

        boolean fitInto(int n) {
            for (int i = 0; i < size && i < PARTS_LIMIT; i++) {
                if (bad[i] > n) {
                    return false;
                }
            }
            return true;
        }

        int leastBad(int n, int k) {
            return n - mostMeeting(n, k, true);
        }

        int greatestBad(int n, int k) {
            return mostMeeting(n, size - k + 1, false);
        }

        /**
         * The most asks at which so many parts can all be good (or bad): what can meet at x asks can
         * meet at fewer, too, so the answer is put together from its highest bit down.
         */
        private int mostMeeting(int n, int together, boolean good) {
            int most = 0;
            for (int step = FIRST_STEP; step > 0; step >>= 1) {
                if (most + step <= n && canMeet(n, most + step, together, good)) {
                    most += step;
                }
            }
            return most;
        }

        /** A part gives at most one answer to each of the x asks; dealt in turn, they fill all evenly. */
        private boolean canMeet(int n, int x, int together, boolean good) {
            int answers = 0;
            for (int i = 0; i < size && i < PARTS_LIMIT; i++) {
                answers += Math.min(good ? n - bad[i] : bad[i], x);
            }
            return answers >= together * x;
        }
    }

    private static final class Alarm {
        final Promise promise;
        private final int longSpan;
        private final int shortSpan;
        private final int rate;

        Alarm(Promise promise, int longSpan, int shortSpan, int rate) {
            this.promise = promise;
            this.longSpan = longSpan;
            this.shortSpan = shortSpan;
            this.rate = rate;
        }

        boolean ringsIn(History history, int tick) {
            return isOver(history, tick, longSpan) && isOver(history, tick, shortSpan);
        }

        private boolean isOver(History history, int tick, int length) {
            long asks = history.asksIn(tick - length + 1, tick);
            long bad = history.badIn(tick - length + 1, tick);
            return 10000 * bad > rate * promise.slack() * asks;
        }
    }

    /** Ten asks a tick, all good at first, then so many bad ones in each tick. */
    private static final class SteadyHistory implements History {
        final int goodTicks;
        private final int badEach;

        SteadyHistory(int goodTicks, int badEach) {
            this.goodTicks = goodTicks;
            this.badEach = badEach;
        }

        public int asksIn(int low, int high) {
            return HISTORY_ASKS * Math.max(high - Math.max(low, 0) + 1, 0);
        }

        public int badIn(int low, int high) {
            return badEach * Math.max(high - Math.max(low, goodTicks) + 1, 0);
        }
    }

    /**
     * The search for the best alarm. The rates 10, 20, .. 200 are levels 1 .. 20: a span that is over
     * a rate is over all lower ones, so one number for each span tells all the rates that ring.
     */
    private static final class AlarmSearch {
        private static final int SPANS = 12;
        private static final int LEVELS = 20;
        private static final int LEVEL_RATE = 10;
        private static final int PAIRS = SPANS * (SPANS + 1) / 2;
        private static final int ROW = LEVELS + 1;

        private final int[] levels = new int[SPANS + 1];
        private final int[] reached = new int[PAIRS];
        private final int[] ticksAtLevel = new int[PAIRS * ROW];
        private int rateLevel;
        private int rateRings;

        int find(Promise promise, SteadyHistory steady, int pass, int now) {
            Arrays.fill(reached, 0);
            Arrays.fill(ticksAtLevel, 0);
            noteHistory(steady, promise.slack(), pass);
            for (int tick = 0; tick <= now; tick++) {
                if (measure(promise.service, promise.slack(), tick)) {
                    noteRings();
                }
            }
            return choose();
        }

        /**
         * More has passed at each later tick: a ring by the last tick looked at is soon enough, a
         * later one is not. And once all spans hold bad ticks alone, later ticks are like that one.
         */
        private void noteHistory(SteadyHistory steady, int slack, int pass) {
            int last = Math.min(steady.goodTicks + SPANS, HISTORY_LAST_TICK);
            for (int tick = steady.goodTicks; tick <= last && steady.badIn(0, tick) <= pass; tick++) {
                if (measure(steady, slack, tick)) {
                    noteReached();
                }
            }
        }

        /** The level of each span that ends at a tick; false if none of them holds a bad answer. */
        private boolean measure(History history, int slack, int tick) {
            int asks = 0;
            int bad = 0;
            for (int length = 1; length <= SPANS; length++) {
                int t = tick - length + 1;
                asks += history.asksIn(t, t);
                bad += history.badIn(t, t);
                levels[length] = levelOf((long) slack * asks, bad);
            }
            return bad > 0;
        }

        /** The greatest level up to 20 with 1000 * bad above level * allowed; 0 if there is none. */
        private static int levelOf(long allowed, int bad) {
            if (bad <= 0) {
                return 0;
            }
            if (allowed <= 0) {
                return LEVELS;
            }
            return (int) Math.min((1000L * bad - 1) / allowed, LEVELS);
        }

        private void noteReached() {
            for (int a = 1; a <= SPANS; a++) {
                for (int b = 1; b <= a; b++) {
                    int pair = pairOf(a, b);
                    if (pair >= 0 && pair < PAIRS) {
                        reached[pair] = Math.max(reached[pair], Math.min(levels[a], levels[b]));
                    }
                }
            }
        }

        private void noteRings() {
            for (int a = 1; a <= SPANS; a++) {
                for (int b = 1; b <= a; b++) {
                    int at = pairOf(a, b) * ROW + Math.min(levels[a], levels[b]);
                    if (at >= 0 && at < ticksAtLevel.length) {
                        ticksAtLevel[at]++;
                    }
                }
            }
        }

        private int choose() {
            int answer = NONE;
            int fewest = ALL_TICKS + 1;
            for (int a = 1; a <= SPANS; a++) {
                for (int b = 1; b <= a; b++) {
                    chooseRate(pairOf(a, b));
                    if (rateLevel > 0 && rateRings < fewest) {
                        fewest = rateRings;
                        answer = 1000000 * a + 1000 * b + LEVEL_RATE * rateLevel;
                    }
                }
            }
            return answer;
        }

        /** The lower a rate, the more it rings: down from the highest that will do, while it is equal. */
        private void chooseRate(int pair) {
            rateLevel = 0;
            rateRings = ALL_TICKS + 1;
            if (pair < 0 || pair >= PAIRS) {
                return;
            }
            int rings = 0;
            for (int level = LEVELS; level > 0; level--) {
                rings += ticksAtLevel[pair * ROW + level];
                if (level <= reached[pair] && rings <= rateRings) {
                    rateRings = rings;
                    rateLevel = level;
                }
            }
        }

        private static int pairOf(int a, int b) {
            return a * (a - 1) / 2 + b - 1;
        }
    }

    private static final class Change {
        final int promise;
        final int guess;
        final int worth;
        int state = WAITING;
        int cost;

        Change(int promise, int guess, int worth) {
            this.promise = promise;
            this.guess = guess;
            this.worth = worth;
        }
    }

    /** The search for a plan, and the latest plan that it found. */
    private static final class Planner {
        private final int[] numbers = new int[PLAN_LIMIT];
        private final int[] guesses = new int[PLAN_LIMIT];
        private final int[] worths = new int[PLAN_LIMIT];
        private final int[] worthFrom = new int[PLAN_LIMIT];
        private final int[] chosen = new int[PLAN_LIMIT];
        private int offered;
        private int chosenSize;
        private int bestMask;
        private int bestSize;
        private int bestWorth;

        void clear() {
            offered = 0;
        }

        void offer(int number, int guess, int worth) {
            if (offered >= 0 && offered < PLAN_LIMIT) {
                numbers[offered] = number;
                guesses[offered] = guess;
                worths[offered] = worth;
                offered++;
            }
        }

        int choose(int room) {
            bestMask = 0;
            bestSize = 0;
            bestWorth = 0;
            if (room >= 0) {
                addUpWorths();
                explore(0, 0, room, 0);
            }
            keepBest();
            return bestWorth;
        }

        int chosenAt(int i) {
            return i >= 0 && i < chosenSize && i < PLAN_LIMIT ? chosen[i] : NONE;
        }

        private void addUpWorths() {
            int all = 0;
            for (int i = PLAN_LIMIT - 1; i >= 0; i--) {
                if (i < offered) {
                    all += worths[i];
                }
                worthFrom[i] = all;
            }
        }

        /**
         * Choices with an earlier change come ahead of those without it, so of equal ones the first
         * that is met has the least numbers, and only a better one takes its place.
         */
        private void explore(int at, int mask, int room, int worth) {
            int size = Integer.bitCount(mask);
            if (isBetter(worth, size)) {
                bestMask = mask;
                bestSize = size;
                bestWorth = worth;
            }
            if (at >= 0 && at < offered && at < PLAN_LIMIT && isBetter(worth + worthFrom[at], size + 1)) {
                branch(at, mask, room, worth);
            }
        }

        private void branch(int at, int mask, int room, int worth) {
            if (at < 0 || at >= PLAN_LIMIT) {
                return;
            }
            if (guesses[at] <= room) {
                explore(at + 1, mask | 1 << at, room - guesses[at], worth + worths[at]);
            }
            explore(at + 1, mask, room, worth);
        }

        private boolean isBetter(int worth, int size) {
            return worth > bestWorth || worth == bestWorth && size < bestSize;
        }

        private void keepBest() {
            chosenSize = 0;
            for (int i = 0; i < offered && i < PLAN_LIMIT; i++) {
                if ((bestMask & 1 << i) != 0 && chosenSize < PLAN_LIMIT) {
                    chosen[chosenSize] = numbers[i];
                    chosenSize++;
                }
            }
        }
    }
}

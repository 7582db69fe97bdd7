import java.util.NoSuchElementException;
import java.util.Random;

/**
 * All promises: long runs of calls, the same at every run of the test, each answer compared with that
 * of PlainKeeper. Arguments are mostly such as are taken, with edges and wild ones among them.
 */
public final class PlainModelTest {
    private static final int THROWN = Integer.MIN_VALUE;
    private static final int RUNS = 400;
    /** What an object answers behind its 512th call is free; the first five make a beginning. */
    private static final int CALLS = 512 - 5;
    private static final int LAST_TICK = 600;
    private static final int WHEN_SETTLED = 5;

    private final Random random;
    private final ShareKeeper keeper = new ShareKeeper();
    private final PlainKeeper plain = new PlainKeeper();
    /** How the run is: which shares, how wide the spans, how fast time goes, how often a wild number. */
    private final int share;
    private final int width;
    private final int pace;
    private final int wildness;
    private final int most;
    private final int load;
    private int bests = 4;
    private int number;

    private PlainModelTest(long seed) {
        random = new Random(seed);
        share = pick(0, 500, 900, 990, 1000, -1);
        width = pick(3, 12, 50, 200);
        pace = pick(2, 5, 20, 60);
        wildness = pick(5, 30, 1000);
        most = pick(3, 10, 100, 1000);
        load = pick(2, 8);
    }

    public static void main(String[] args) {
        for (int seed = 0; seed < RUNS; seed++) {
            PlainModelTest run = new PlainModelTest(seed);
            run.begin();
            for (int call = 0; call < CALLS; call++) {
                run.step("run " + seed + " call " + call + ": ");
            }
        }
        Check.finish();
    }

    private int pick(int... of) {
        return of[random.nextInt(of.length)];
    }

    private int number(int low, int high) {
        if (random.nextInt(wildness) == 0) {
            return pick(low - 1, high + 1, low, high, Integer.MIN_VALUE, Integer.MAX_VALUE, -1, 0, 1);
        }
        // Bounds that a wild number made may be no bounds.
        long size = (long) high - low + 1;
        return size < 1 || size > 2000000 ? low : low + random.nextInt((int) size);
    }

    private int of(int size) {
        return number(0, Math.max(size - 1, 0));
    }

    private int someShare() {
        return share >= 0 ? share : number(0, 1000);
    }

    private int nearNow() {
        int now = plain.desk(2);
        return number(Math.max(0, now - 15), Math.min(600, now + 5));
    }

    private void begin() {
        plain.service();
        keeper.service();
        for (int i = 0; i < 2; i++) {
            int late = number(0, 60);
            keeper.source(0, late, most);
            plain.source(0, late, most);
            int w = number(1, width);
            int s = someShare();
            keeper.promise(0, w, s, i == 0);
            plain.promise(0, w, s, i == 0);
        }
    }

    private void step(String at) {
        int kind = random.nextInt(40);
        if (kind < 14) {
            count(at);
        } else if (kind < 20) {
            setUp(at);
        } else if (kind < 26) {
            spans(at);
        } else if (kind < 31) {
            alarms(at);
        } else if (kind < 37) {
            changes(at);
        } else {
            parts(at);
        }
    }

    private void count(String at) {
        int source = of(plain.desk(1));
        int n = random.nextInt(6) == 0 ? number(0, 199) : number++;
        int now = plain.desk(2);
        int tick = random.nextInt(8) == 0 ? number(0, now + 2) : number(Math.max(0, now - 6), now);
        int good = number(0, Math.max(most / load, 1));
        int bad = random.nextInt(3) == 0 ? number(0, Math.max(most / load, 1)) : number(0, Math.max(most / 50, 1));
        Check.due(at + "count(" + source + ", " + n + ", " + tick + ", " + good + ", " + bad + ")",
            keeper.count(source, n, tick, good, bad), plain.count(source, n, tick, good, bad));
    }

    private void setUp(String at) {
        switch (random.nextInt(12)) {
            case 0: {
                Check.due(at + "service()", keeper.service(), plain.service());
                break;
            }
            case 1: {
                int service = of(plain.desk(0));
                int late = number(0, pick(0, 5, 60));
                Check.due(at + "source(" + service + ", " + late + ", " + most + ")",
                    keeper.source(service, late, most), plain.source(service, late, most));
                break;
            }
            case 2: {
                int service = of(plain.desk(0));
                int w = number(1, width);
                int s = someShare();
                boolean fixed = random.nextBoolean();
                Check.due(at + "promise(" + service + ", " + w + ", " + s + ", " + fixed + ")",
                    keeper.promise(service, w, s, fixed), plain.promise(service, w, s, fixed));
                break;
            }
            case 3:
            case 4: {
                int promise = of(plain.desk(3));
                int low = number(plain.desk(2), plain.desk(2) + 10);
                int high = number(low, low + pick(0, 2, 30));
                Check.due(at + "grace(" + promise + ", " + low + ", " + high + ")",
                    keeper.grace(promise, low, high), plain.grace(promise, low, high));
                break;
            }
            default: {
                int n = number(0, pace);
                if (plain.desk(2) < 500 || random.nextInt(4) == 0) {
                    Check.due(at + "ticks(" + n + ")", keeper.ticks(n), plain.ticks(n));
                }
            }
        }
    }

    private void spans(String at) {
        int promise = of(plain.desk(3));
        int tick = random.nextInt(3) == 0 ? number(0, 600) : nearNow();
        switch (random.nextInt(8)) {
            case 0: {
                Check.due(at + "broken(" + promise + ", " + tick + ")",
                    keeper.broken(promise, tick), plain.broken(promise, tick));
                break;
            }
            case 1: {
                int service = of(plain.desk(0));
                int high = number(tick, 600);
                int what = number(0, 2);
                Check.due(at + "sum(" + service + ", " + tick + ", " + high + ", " + what + ")",
                    keeper.sum(service, tick, high, what), plain.sum(service, tick, high, what));
                break;
            }
            case 2: {
                int what = number(0, 8);
                Check.due(at + "desk(" + what + ")", keeper.desk(what), plain.desk(what));
                break;
            }
            default: {
                int what = number(0, 7);
                int got = span(promise, tick, what);
                int want = plainSpan(promise, tick, what);
                // NOW never gets there: the document does not say what is answered of such a span.
                if (what != WHEN_SETTLED || want <= LAST_TICK) {
                    Check.due(at + "span(" + promise + ", " + tick + ", " + what + ")", got, want);
                }
            }
        }
    }

    private int span(int promise, int tick, int what) {
        try {
            return keeper.span(promise, tick, what);
        } catch (NoSuchElementException e) {
            return THROWN;
        }
    }

    private int plainSpan(int promise, int tick, int what) {
        try {
            return plain.span(promise, tick, what);
        } catch (NoSuchElementException e) {
            return THROWN;
        }
    }

    private void alarms(String at) {
        int m = number(0, pick(0, 5, 300));
        int e = number(0, 10);
        switch (random.nextInt(6)) {
            case 0: {
                int promise = of(plain.desk(3));
                int a = number(1, pick(5, 12, 200));
                int b = number(1, a);
                int r = number(1, pick(10, 100, 1000));
                Check.due(at + "alarm(" + promise + ", " + a + ", " + b + ", " + r + ")",
                    keeper.alarm(promise, a, b, r), plain.alarm(promise, a, b, r));
                break;
            }
            case 1: {
                int alarm = of(plain.desk(6));
                int what = number(0, 1);
                Check.due(at + "soonest(" + alarm + ", " + m + ", " + e + ", " + what + ")",
                    keeper.soonest(alarm, m, e, what), plain.soonest(alarm, m, e, what));
                break;
            }
            case 2: {
                int promise = of(plain.desk(3));
                int p = number(0, pick(10, 30, 100, 100000));
                if (bests-- > 0) {
                    Check.due(at + "best(" + promise + ", " + m + ", " + e + ", " + p + ")",
                        keeper.best(promise, m, e, p), plain.best(promise, m, e, p));
                }
                break;
            }
            default: {
                int alarm = of(plain.desk(6));
                int tick = nearNow();
                Check.due(at + "rings(" + alarm + ", " + tick + ")",
                    keeper.rings(alarm, tick), plain.rings(alarm, tick));
            }
        }
    }

    private void changes(String at) {
        int change = of(plain.desk(7));
        int promise = of(plain.desk(3));
        switch (random.nextInt(9)) {
            case 0:
            case 1:
            case 2: {
                int guess = number(0, pick(0, 3, 20, 200));
                int worth = number(0, pick(2, 5, 1000));
                Check.due(at + "change(" + promise + ", " + guess + ", " + worth + ")",
                    keeper.change(promise, guess, worth), plain.change(promise, guess, worth));
                break;
            }
            case 3: {
                Check.due(at + "let(" + change + ")", keeper.let(change), plain.let(change));
                break;
            }
            case 4: {
                int cost = number(0, 100000);
                Check.due(at + "settle(" + change + ", " + cost + ")",
                    keeper.settle(change, cost), plain.settle(change, cost));
                break;
            }
            case 5:
            case 6: {
                Check.due(at + "plan(" + promise + ")", keeper.plan(promise), plain.plan(promise));
                break;
            }
            case 7: {
                int i = number(0, 4);
                Check.due(at + "planned(" + i + ")", keeper.planned(i), plain.planned(i));
                break;
            }
            default: {
                int what = number(0, 4);
                Check.due(at + "look(" + change + ", " + what + ")",
                    keeper.look(change, what), plain.look(change, what));
            }
        }
    }

    private void parts(String at) {
        int n = number(0, pick(5, 20, 1000));
        if (random.nextInt(4) == 0) {
            int k = of(plain.desk(8) + 1);
            int what = number(0, 1);
            Check.due(at + "made(" + n + ", " + k + ", " + what + ")",
                keeper.made(n, k, what), plain.made(n, k, what));
        } else {
            Check.due(at + "part(" + n + ")", keeper.part(n), plain.part(n));
        }
    }
}

import java.util.ArrayList;
import java.util.List;
import java.util.NoSuchElementException;

/**
 * The document read once more, as slowly and plainly as its words go: nothing is added up ahead, every
 * answer is counted out anew from the calls that were taken. The program is compared with it.
 */
final class PlainKeeper {
    private final List<int[]> sources = new ArrayList<>();
    private final List<int[]> counts = new ArrayList<>();
    private final List<int[]> promises = new ArrayList<>();
    private final List<int[]> graces = new ArrayList<>();
    private final List<int[]> alarms = new ArrayList<>();
    private final List<int[]> changes = new ArrayList<>();
    private final List<Integer> parts = new ArrayList<>();
    private List<Integer> plan = new ArrayList<>();
    private int services;
    private int now;
    private int again;

    int service() {
        return services == 8 ? -1 : services++;
    }

    int source(int service, int late, int most) {
        if (!in(service, services) || late < 0 || late > 60 || most < 1 || most > 1000 || sources.size() == 16) {
            return -1;
        }
        sources.add(new int[] {service, late, most});
        return sources.size() - 1;
    }

    int count(int source, int number, int tick, int good, int bad) {
        if (!in(source, sources.size()) || !in(number, 200) || tick < 0 || good < 0 || bad < 0
                || (long) good + bad > 1000) {
            return 1;
        }
        for (int[] c : counts) {
            if (c[0] == source && c[1] == number) {
                again++;
                return 2;
            }
        }
        if (tick > now) {
            return 3;
        }
        if (now - tick > sources.get(source)[1]) {
            return 4;
        }
        if (came(source, tick) + good + bad > sources.get(source)[2]) {
            return 5;
        }
        counts.add(new int[] {source, number, tick, good, bad});
        return 0;
    }

    int ticks(int n) {
        if (n < 0 || n > 600 || now + n > 600) {
            return -1;
        }
        now += n;
        return now;
    }

    int promise(int service, int w, int share, boolean fixed) {
        if (!in(service, services) || w < 1 || w > 200 || share < 0 || share > 1000 || promises.size() == 12) {
            return -1;
        }
        promises.add(new int[] {service, w, share, fixed ? 1 : 0});
        return promises.size() - 1;
    }

    boolean grace(int promise, int low, int high) {
        int rows = 0;
        for (int[] g : graces) {
            rows += g[0] == promise ? 1 : 0;
        }
        if (!in(promise, promises.size()) || low <= now || high < low || high > 600 || rows == 10) {
            return false;
        }
        graces.add(new int[] {promise, low, high});
        return true;
    }

    int sum(int service, int low, int high, int what) {
        if (!in(service, services) || !in(what, 3) || low < 0 || high < low || high > 600) {
            return -1;
        }
        boolean[] ticks = new boolean[601];
        for (int t = low; t <= high; t++) {
            ticks[t] = true;
        }
        return what == 0 ? asks(service, ticks) : what == 1 ? bad(service, ticks) : toCome(service, ticks);
    }

    int span(int promise, int tick, int what) {
        if (!in(promise, promises.size()) || !in(tick, 601) || !in(what, 8)) {
            throw new NoSuchElementException();
        }
        int service = promises.get(promise)[0];
        int share = promises.get(promise)[2];
        boolean[] ticks = spanTicks(promise, tick);
        long a = asks(service, ticks);
        long b = bad(service, ticks);
        long c = toCome(service, ticks);
        int left = (int) Math.floorDiv(a * (1000 - share), 1000L) - (int) b;
        int least = (int) Math.floorDiv((a + c) * (1000 - share), 1000L) - (int) (b + c);
        int most = (int) Math.floorDiv((a + c) * (1000 - share), 1000L) - (int) b;
        int whole = b * 1000 <= a * (1000 - share) ? 1 : 0;
        int sure = least >= 0 ? 1 : most < 0 ? 2 : 0;
        int[] answers = {left, least, most, whole, sure, settled(service, ticks), (int) a, (int) b};
        return answers[what];
    }

    int broken(int promise, int from) {
        if (!in(promise, promises.size()) || !in(from, 601)) {
            return -1;
        }
        for (int t = from; t <= 600; t++) {
            if (span(promise, t, 3) == 0) {
                return t;
            }
        }
        return -1;
    }

    int part(int bad) {
        if (!in(bad, 100001) || parts.size() == 10) {
            return -1;
        }
        parts.add(bad);
        return parts.size();
    }

    /** Asks one by one from the greatest number down: enough bad ones are left for each to be bad. */
    int made(int n, int k, int what) {
        List<Integer> bad = new ArrayList<>(parts);
        parts.clear();
        if (bad.isEmpty() || k < 1 || k > bad.size() || !in(what, 2) || !in(n, 100001)) {
            return -1;
        }
        for (int b : bad) {
            if (b > n) {
                return -1;
            }
        }
        int together = what == 0 ? k : bad.size() - k + 1;
        for (int x = n; x >= 0; x--) {
            long given = 0;
            for (int b : bad) {
                given += Math.min(x, what == 0 ? n - b : b);
            }
            if (given >= (long) together * x) {
                return what == 0 ? n - x : x;
            }
        }
        return -1;
    }

    int alarm(int promise, int a, int b, int r) {
        if (!in(promise, promises.size()) || a < 1 || a > 200 || b < 1 || b > a || r < 1 || r > 1000
                || alarms.size() == 8) {
            return -1;
        }
        alarms.add(new int[] {promise, a, b, r});
        return alarms.size() - 1;
    }

    int rings(int alarm, int tick) {
        if (!in(alarm, alarms.size()) || !in(tick, 601)) {
            return -1;
        }
        int[] al = alarms.get(alarm);
        int[][] history = told(promises.get(al[0])[0]);
        return rings(history, promises.get(al[0])[2], al[1], al[2], al[3], tick) ? 1 : 0;
    }

    int soonest(int alarm, int m, int e, int what) {
        if (!in(alarm, alarms.size()) || !in(m, 301) || !in(e, 11) || !in(what, 2)) {
            return -1;
        }
        int[] al = alarms.get(alarm);
        int[][] history = steady(m, e);
        int tick = firstRing(history, promises.get(al[0])[2], al[1], al[2], al[3]);
        return tick < 0 || what == 0 ? tick : (int) range(history[1], 0, tick);
    }

    int best(int promise, int m, int e, int p) {
        if (!in(promise, promises.size()) || !in(m, 301) || !in(e, 11) || !in(p, 100001)) {
            return -1;
        }
        int[][] steady = steady(m, e);
        int[][] told = told(promises.get(promise)[0]);
        int share = promises.get(promise)[2];
        int answer = -1;
        int fewest = Integer.MAX_VALUE;
        for (int a = 1; a <= 12; a++) {
            for (int b = 1; b <= a; b++) {
                for (int r = 10; r <= 200; r += 10) {
                    int tick = firstRing(steady, share, a, b, r);
                    if (tick < 0 || range(steady[1], 0, tick) > p) {
                        continue;
                    }
                    int often = 0;
                    for (int t = 0; t <= now; t++) {
                        often += rings(told, share, a, b, r, t) ? 1 : 0;
                    }
                    if (often < fewest) {
                        fewest = often;
                        answer = 1000000 * a + 1000 * b + r;
                    }
                }
            }
        }
        return answer;
    }

    int change(int promise, int guess, int worth) {
        if (!in(promise, promises.size()) || !in(guess, 100001) || !in(worth, 1001) || changes.size() == 40) {
            return -1;
        }
        changes.add(new int[] {0, promise, guess, worth, 0});
        return changes.size() - 1;
    }

    boolean let(int change) {
        if (!in(change, changes.size()) || changes.get(change)[0] != 0) {
            return false;
        }
        int[] c = changes.get(change);
        if (room(c[1]) < c[2]) {
            return false;
        }
        c[0] = 1;
        return true;
    }

    boolean settle(int change, int cost) {
        if (!in(change, changes.size()) || changes.get(change)[0] != 1 || !in(cost, 100001)) {
            return false;
        }
        changes.get(change)[0] = 2;
        changes.get(change)[4] = cost;
        return true;
    }

    int plan(int promise) {
        if (!in(promise, promises.size())) {
            return -1;
        }
        List<Integer> first = new ArrayList<>();
        for (int i = 0; i < changes.size() && first.size() < 14; i++) {
            if (changes.get(i)[0] == 0 && changes.get(i)[1] == promise) {
                first.add(i);
            }
        }
        int room = room(promise);
        List<Integer> chosen = new ArrayList<>();
        for (int mask = 0; mask < 1 << first.size() && room >= 0; mask++) {
            List<Integer> other = new ArrayList<>();
            for (int i = 0; i < first.size(); i++) {
                if ((mask >> i & 1) != 0) {
                    other.add(first.get(i));
                }
            }
            if (total(other, 2) <= room && better(other, chosen)) {
                chosen = other;
            }
        }
        plan = chosen;
        return total(chosen, 3);
    }

    int planned(int i) {
        return in(i, plan.size()) ? plan.get(i) : -1;
    }

    int look(int change, int what) {
        return in(change, changes.size()) && in(what, 5) ? changes.get(change)[what] : -1;
    }

    int desk(int what) {
        int[] answers = {services, sources.size(), now, promises.size(), counts.size(), again, alarms.size(),
            changes.size(), parts.size()};
        return in(what, 9) ? answers[what] : -1;
    }

    private static boolean in(int value, int end) {
        return value >= 0 && value < end;
    }

    private int came(int source, int tick) {
        int all = 0;
        for (int[] c : counts) {
            all += c[0] == source && c[2] == tick ? c[3] + c[4] : 0;
        }
        return all;
    }

    private int asks(int service, boolean[] ticks) {
        int all = 0;
        for (int[] c : counts) {
            all += sources.get(c[0])[0] == service && ticks[c[2]] ? c[3] + c[4] : 0;
        }
        return all;
    }

    private int bad(int service, boolean[] ticks) {
        int all = 0;
        for (int[] c : counts) {
            all += sources.get(c[0])[0] == service && ticks[c[2]] ? c[4] : 0;
        }
        return all;
    }

    private int toCome(int service, boolean[] ticks) {
        int all = 0;
        for (int s = 0; s < sources.size(); s++) {
            int[] source = sources.get(s);
            for (int t = 0; t <= 600 && source[0] == service; t++) {
                all += ticks[t] && now - t <= source[1] ? source[2] : 0;
            }
        }
        for (int[] c : counts) {
            int[] source = sources.get(c[0]);
            all -= source[0] == service && ticks[c[2]] && now - c[2] <= source[1] ? c[3] + c[4] : 0;
        }
        return all;
    }

    private boolean[] spanTicks(int promise, int tick) {
        int w = promises.get(promise)[1];
        boolean fixed = promises.get(promise)[3] == 1;
        boolean[] ticks = new boolean[601];
        for (int t = 0; t <= 600; t++) {
            ticks[t] = fixed ? t / w == tick / w : t <= tick && t > tick - w;
        }
        for (int[] g : graces) {
            for (int t = g[1]; t <= g[2] && g[0] == promise; t++) {
                ticks[t] = false;
            }
        }
        return ticks;
    }

    private int settled(int service, boolean[] ticks) {
        int settled = 0;
        for (int[] source : sources) {
            for (int t = 0; t <= 600 && source[0] == service; t++) {
                for (int n = settled; n <= 700 && ticks[t]; n++) {
                    boolean open = n - t <= source[1];
                    settled = open ? Math.max(settled, n + 1) : settled;
                }
            }
        }
        return settled;
    }

    private int[][] told(int service) {
        int[][] history = new int[2][601];
        for (int[] c : counts) {
            if (sources.get(c[0])[0] == service) {
                history[0][c[2]] += c[3] + c[4];
                history[1][c[2]] += c[4];
            }
        }
        return history;
    }

    private static int[][] steady(int m, int e) {
        int[][] history = new int[2][601];
        for (int t = 0; t <= 600; t++) {
            history[0][t] = 10;
            history[1][t] = t < m ? 0 : e;
        }
        return history;
    }

    private static int firstRing(int[][] history, int share, int a, int b, int r) {
        for (int t = 0; t <= 599; t++) {
            if (rings(history, share, a, b, r, t)) {
                return t;
            }
        }
        return -1;
    }

    private static boolean rings(int[][] history, int share, int a, int b, int r, int tick) {
        return over(history, share, b, r, tick) && over(history, share, a, r, tick);
    }

    private static boolean over(int[][] history, int share, int length, int r, int tick) {
        long asks = range(history[0], tick - length + 1, tick);
        long bad = range(history[1], tick - length + 1, tick);
        return 10000 * bad > (long) r * (1000 - share) * asks;
    }

    private static long range(int[] row, int low, int high) {
        long all = 0;
        for (int t = Math.max(low, 0); t <= high; t++) {
            all += row[t];
        }
        return all;
    }

    private int room(int promise) {
        int room = span(promise, now, 1);
        for (int[] c : changes) {
            room -= c[0] == 1 && c[1] == promise ? c[2] : 0;
        }
        return room;
    }

    private int total(List<Integer> chosen, int what) {
        int all = 0;
        for (int i : chosen) {
            all += changes.get(i)[what];
        }
        return all;
    }

    private boolean better(List<Integer> one, List<Integer> other) {
        if (total(one, 3) != total(other, 3)) {
            return total(one, 3) > total(other, 3);
        }
        if (one.size() != other.size()) {
            return one.size() < other.size();
        }
        for (int i = 0; i < one.size(); i++) {
            if (!one.get(i).equals(other.get(i))) {
                return one.get(i) < other.get(i);
            }
        }
        return false;
    }
}

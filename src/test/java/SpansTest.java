/** Promise 9: spans, and what Terms 2 says of them. */
public final class SpansTest {
    private static final int LEFT = 0;
    private static final int LEAST = 1;
    private static final int MOST = 2;
    private static final int WHOLE = 3;
    private static final int SURE = 4;
    private static final int SETTLED = 5;
    private static final int ASKS = 6;
    private static final int BAD = 7;

    public static void main(String[] args) {
        rollingEnds();
        fixedEnds();
        below0();
        above600();
        graceLeftOut();
        leftCutDownwards();
        leftOfNothing();
        wholeAtItsShare();
        least();
        most();
        asOfNow();
        withGraceAsTold();
        surelyWhole();
        surelyBroken();
        elseOpen();
        settledBehindTheLatest();
        settledAsSumsTell();
        settledWithGrace();
        settledWithoutTicks();
        settledWithoutSources();
        settledAt600();
        settledNeverUpTo600();
        greatNumbers();
        ordinaryRolling();
        ordinaryFixed();
        noSuchPromise();
        noSuchTick();
        noSuchWhat();
        Check.finish();
    }

    private static ShareKeeper keeper(int late, int most) {
        ShareKeeper x = new ShareKeeper();
        x.service();
        x.source(0, late, most);
        return x;
    }

    /** Each tick has a power of two of its own, so that a span's asks tell which ticks are in it. */
    private static ShareKeeper powers() {
        ShareKeeper x = keeper(60, 1000);
        x.ticks(9);
        for (int t = 0; t <= 9; t++) {
            x.count(0, t, t, 0, 1 << t);
        }
        return x;
    }

    private static void ticksDue(ShareKeeper x, int promise, int tick, int powers) {
        Check.due("asks of " + promise + " at " + tick, x.span(promise, tick, ASKS), powers);
        Check.due("bad ones of " + promise + " at " + tick, x.span(promise, tick, BAD), powers);
    }

    private static void rollingEnds() {
        Check.sentence("Terms 2", "ROLLING: its span at tick t is t - W + 1 .. t");
        ShareKeeper x = powers();
        x.promise(0, 3, 0, false);
        x.promise(0, 1, 0, false);
        x.promise(0, 200, 0, false);
        ticksDue(x, 0, 5, 8 + 16 + 32);
        ticksDue(x, 0, 2, 1 + 2 + 4);
        ticksDue(x, 0, 3, 2 + 4 + 8);
        ticksDue(x, 0, 9, 128 + 256 + 512);
        ticksDue(x, 0, 11, 512);
        ticksDue(x, 0, 12, 0);
        ticksDue(x, 1, 5, 32);
        ticksDue(x, 1, 0, 1);
        ticksDue(x, 1, 10, 0);
        ticksDue(x, 2, 8, 511);
        ticksDue(x, 2, 199, 1023);
        ticksDue(x, 2, 200, 1022);
        ticksDue(x, 2, 208, 512);
        ticksDue(x, 2, 209, 0);
    }

    private static void fixedEnds() {
        Check.sentence("Terms 2", "FIXED: the ticks from W * k to W * k + W - 1 in which t is");
        ShareKeeper x = powers();
        x.promise(0, 4, 0, true);
        x.promise(0, 1, 0, true);
        x.promise(0, 200, 0, true);
        for (int tick = 0; tick < 4; tick++) {
            ticksDue(x, 0, tick, 1 + 2 + 4 + 8);
            ticksDue(x, 0, tick + 4, 16 + 32 + 64 + 128);
            ticksDue(x, 0, tick + 8, 256 + 512);
            ticksDue(x, 0, tick + 12, 0);
        }
        ticksDue(x, 1, 0, 1);
        ticksDue(x, 1, 5, 32);
        ticksDue(x, 1, 10, 0);
        ticksDue(x, 2, 0, 1023);
        ticksDue(x, 2, 199, 1023);
        ticksDue(x, 2, 200, 0);
        ticksDue(x, 2, 399, 0);
    }

    /** With SHARE 0, MOST is all asks that may come: here 10 for each tick that is not left out. */
    private static void below0() {
        Check.sentence("Terms 2", "Ticks below 0 .. are left out");
        ShareKeeper x = keeper(60, 10);
        x.promise(0, 200, 0, false);
        x.promise(0, 2, 0, false);
        Check.due("200 at 0", x.span(0, 0, MOST), 10);
        Check.due("200 at 1", x.span(0, 1, MOST), 20);
        Check.due("200 at 198", x.span(0, 198, MOST), 1990);
        Check.due("200 at 199", x.span(0, 199, MOST), 2000);
        Check.due("200 at 200", x.span(0, 200, MOST), 2000);
        Check.due("2 at 0", x.span(1, 0, MOST), 10);
        Check.due("2 at 1", x.span(1, 1, MOST), 20);
    }

    private static void above600() {
        Check.sentence("Terms 1, 2", "Ticks .. above 600 .. are left out; never in a span");
        ShareKeeper x = keeper(60, 10);
        x.promise(0, 200, 0, true);
        x.promise(0, 7, 0, true);
        x.promise(0, 199, 0, true);
        x.promise(0, 7, 0, false);
        Check.due("400 to 599", x.span(0, 599, MOST), 2000);
        Check.due("600 alone", x.span(0, 600, MOST), 10);
        Check.due("588 to 594", x.span(1, 594, MOST), 70);
        Check.due("595 to 600, at its first", x.span(1, 595, MOST), 60);
        Check.due("595 to 600, at its last", x.span(1, 600, MOST), 60);
        Check.due("597 to 600", x.span(2, 600, MOST), 40);
        Check.due("398 to 596", x.span(2, 596, MOST), 1990);
        Check.due("rolling at 600", x.span(3, 600, MOST), 70);
        x.ticks(600);
        x.count(0, 0, 600, 2, 3);
        Check.due("asks of 600", x.span(0, 600, ASKS), 5);
        Check.due("bad ones from 595 on", x.span(1, 595, BAD), 3);
        Check.due("asks up to 599", x.span(0, 599, ASKS), 0);
    }

    private static void graceLeftOut() {
        Check.sentence("Terms 2", "Ticks .. of GRACE are left out");
        ShareKeeper x = keeper(60, 1000);
        for (int promise = 0; promise < 3; promise++) {
            x.promise(0, 5, 0, promise == 1);
        }
        x.grace(0, 2, 4);
        x.grace(0, 4, 6);
        x.grace(1, 2, 4);
        x.ticks(9);
        for (int t = 0; t <= 9; t++) {
            x.count(0, t, t, 0, 1 << t);
        }
        ticksDue(x, 0, 1, 1 + 2);
        ticksDue(x, 0, 4, 1 + 2);
        ticksDue(x, 0, 5, 2);
        ticksDue(x, 0, 6, 0);
        ticksDue(x, 0, 7, 128);
        ticksDue(x, 0, 9, 128 + 256 + 512);
        ticksDue(x, 1, 4, 1 + 2);
        ticksDue(x, 1, 5, 32 + 64 + 128 + 256 + 512);
        ticksDue(x, 2, 4, 1 + 2 + 4 + 8 + 16);
        Check.due("sums know no GRACE", x.sum(0, 0, 9, 0), 1023);
    }

    private static void leftCutDownwards() {
        Check.sentence("Terms 2", "LEFT is A * (1000 - SHARE) / 1000, cut downwards, less B");
        ShareKeeper x = keeper(0, 1000);
        x.promise(0, 1, 995, false);
        Check.due("1 bad", x.count(0, 0, 0, 198, 1), 0);
        Check.due("0.995 less 1", x.span(0, 0, LEFT), -1);
        x.count(0, 1, 0, 1, 0);
        Check.due("1 less 1", x.span(0, 0, LEFT), 0);
        x.count(0, 2, 0, 199, 0);
        Check.due("1.995 less 1", x.span(0, 0, LEFT), 0);
        x.count(0, 3, 0, 1, 0);
        Check.due("2 less 1", x.span(0, 0, LEFT), 1);
        x.count(0, 4, 0, 0, 5);
        Check.due("2.025 less 6", x.span(0, 0, LEFT), -4);
        ShareKeeper y = keeper(0, 1000);
        y.promise(0, 1, 999, false);
        y.promise(0, 1, 1, false);
        y.count(0, 0, 0, 999, 0);
        Check.due("0.999", y.span(0, 0, LEFT), 0);
        Check.due("998.001", y.span(1, 0, LEFT), 998);
        y.count(0, 1, 0, 1, 0);
        Check.due("1", y.span(0, 0, LEFT), 1);
        Check.due("999", y.span(1, 0, LEFT), 999);
    }

    private static void leftOfNothing() {
        Check.sentence("Terms 2", "With A asks and B bad in the span");
        ShareKeeper x = keeper(0, 10);
        for (int share : new int[] {0, 1, 999, 1000}) {
            x.promise(0, 3, share, false);
        }
        for (int promise = 0; promise < 4; promise++) {
            Check.due("LEFT", x.span(promise, 5, LEFT), 0);
            Check.due("whole", x.span(promise, 5, WHOLE), 1);
            Check.due("asks", x.span(promise, 5, ASKS), 0);
            Check.due("bad ones", x.span(promise, 5, BAD), 0);
        }
    }

    private static void wholeAtItsShare() {
        Check.sentence("Terms 2", "it is whole if B * 1000 is at most A * (1000 - SHARE)");
        ShareKeeper x = keeper(0, 1000);
        x.promise(0, 1, 900, false);
        x.promise(0, 1, 0, false);
        x.promise(0, 1, 1000, false);
        x.count(0, 0, 0, 89, 10);
        Check.due("10 bad of 99", x.span(0, 0, WHOLE), 0);
        x.count(0, 1, 0, 1, 0);
        Check.due("10 bad of 100", x.span(0, 0, WHOLE), 1);
        x.count(0, 2, 0, 1, 0);
        Check.due("10 bad of 101", x.span(0, 0, WHOLE), 1);
        x.count(0, 3, 0, 0, 1);
        Check.due("11 bad of 102", x.span(0, 0, WHOLE), 0);
        Check.due("share 0", x.span(1, 0, WHOLE), 1);
        Check.due("share 1000", x.span(2, 0, WHOLE), 0);
        x.ticks(1);
        x.count(0, 4, 1, 0, 9);
        Check.due("share 0, all bad", x.span(1, 1, WHOLE), 1);
        x.ticks(1);
        x.count(0, 5, 2, 9, 0);
        Check.due("share 1000, all good", x.span(2, 2, WHOLE), 1);
        ShareKeeper y = keeper(0, 1000);
        y.promise(0, 1, 999, false);
        y.promise(0, 1, 1, false);
        y.count(0, 0, 0, 998, 1);
        Check.due("1 bad of 999", y.span(0, 0, WHOLE), 0);
        y.count(0, 1, 0, 1, 0);
        Check.due("1 bad of 1000", y.span(0, 0, WHOLE), 1);
        y.ticks(1);
        y.count(0, 2, 1, 0, 999);
        Check.due("999 bad of 999, share 1", y.span(1, 1, WHOLE), 0);
        y.count(0, 3, 1, 1, 0);
        Check.due("999 bad of 1000, share 1", y.span(1, 1, WHOLE), 1);
    }

    private static void least() {
        Check.sentence("Terms 2", "LEAST is LEFT, if all that may still come does, and is bad");
        ShareKeeper x = keeper(0, 15);
        x.promise(0, 1, 900, false);
        x.promise(0, 1, 0, false);
        x.promise(0, 1, 1000, false);
        Check.due("1.5 less 15", x.span(0, 0, LEAST), -14);
        Check.due("share 0", x.span(1, 0, LEAST), 0);
        Check.due("share 1000", x.span(2, 0, LEAST), -15);
        x.count(0, 0, 0, 9, 1);
        Check.due("1.5 less 6", x.span(0, 0, LEAST), -5);
        Check.due("share 0", x.span(1, 0, LEAST), 9);
        Check.due("share 1000", x.span(2, 0, LEAST), -6);
        x.count(0, 1, 0, 5, 0);
        Check.due("1.5 less 1", x.span(0, 0, LEAST), 0);
        Check.due("LEFT", x.span(0, 0, LEFT), 0);
    }

    private static void most() {
        Check.sentence("Terms 2", "MOST LEFT if all does and is good");
        ShareKeeper x = keeper(0, 15);
        x.promise(0, 1, 900, false);
        x.promise(0, 1, 0, false);
        x.promise(0, 1, 1000, false);
        Check.due("1.5", x.span(0, 0, MOST), 1);
        Check.due("share 0", x.span(1, 0, MOST), 15);
        Check.due("share 1000", x.span(2, 0, MOST), 0);
        x.count(0, 0, 0, 2, 3);
        Check.due("1.5 less 3", x.span(0, 0, MOST), -2);
        Check.due("share 0", x.span(1, 0, MOST), 12);
        Check.due("share 1000", x.span(2, 0, MOST), -3);
        x.count(0, 1, 0, 10, 0);
        Check.due("LEFT", x.span(0, 0, LEFT), -2);
        Check.due("the same when all has come", x.span(0, 0, MOST), -2);
    }

    private static void asOfNow() {
        Check.sentence("Terms 2", "(Both as of NOW)");
        ShareKeeper x = keeper(1, 10);
        x.promise(0, 2, 500, false);
        Check.due("two ticks may come", x.span(0, 4, LEAST), -10);
        Check.due("two ticks may come", x.span(0, 4, MOST), 10);
        x.ticks(4);
        Check.due("two still may at 4", x.span(0, 4, LEAST), -10);
        x.ticks(1);
        Check.due("one may at 5", x.span(0, 4, LEAST), -5);
        Check.due("one may at 5", x.span(0, 4, MOST), 5);
        x.ticks(1);
        Check.due("none may at 6", x.span(0, 4, LEAST), 0);
        Check.due("none may at 6", x.span(0, 4, MOST), 0);
    }

    private static void withGraceAsTold() {
        Check.sentence("Terms 2", "(Both .. with GRACE as told.)");
        ShareKeeper x = keeper(1, 10);
        x.promise(0, 4, 500, false);
        Check.due("four ticks", x.span(0, 6, LEAST), -20);
        x.grace(0, 4, 4);
        Check.due("three ticks", x.span(0, 6, LEAST), -15);
        Check.due("three ticks", x.span(0, 6, MOST), 15);
        x.grace(0, 3, 9);
        Check.due("no tick", x.span(0, 6, LEAST), 0);
        Check.due("no tick", x.span(0, 6, MOST), 0);
        Check.due("surely whole", x.span(0, 6, SURE), 1);
    }

    private static void surelyWhole() {
        Check.sentence("Terms 2", "A span is surely whole if LEAST is 0 or more");
        ShareKeeper x = keeper(0, 10);
        x.promise(0, 1, 500, false);
        x.count(0, 0, 0, 4, 0);
        Check.due("LEAST -1", x.span(0, 0, LEAST), -1);
        Check.due("not yet", x.span(0, 0, SURE), 0);
        x.count(0, 1, 0, 1, 0);
        Check.due("LEAST 0", x.span(0, 0, LEAST), 0);
        Check.due("surely", x.span(0, 0, SURE), 1);
        x.count(0, 2, 0, 1, 0);
        Check.due("LEAST 1", x.span(0, 0, LEAST), 1);
        Check.due("surely", x.span(0, 0, SURE), 1);
    }

    private static void surelyBroken() {
        Check.sentence("Terms 2", "surely broken if MOST is below 0");
        ShareKeeper x = keeper(0, 10);
        x.promise(0, 1, 500, false);
        x.count(0, 0, 0, 0, 5);
        Check.due("MOST 0", x.span(0, 0, MOST), 0);
        Check.due("not whole now", x.span(0, 0, WHOLE), 0);
        Check.due("not yet", x.span(0, 0, SURE), 0);
        x.count(0, 1, 0, 0, 1);
        Check.due("MOST -1", x.span(0, 0, MOST), -1);
        Check.due("surely", x.span(0, 0, SURE), 2);
        x.count(0, 2, 0, 4, 0);
        Check.due("when all has come", x.span(0, 0, SURE), 2);
    }

    private static void elseOpen() {
        Check.sentence("Terms 2, Promise 9", "else open; 4: 0 open, 1 surely whole, 2 surely broken");
        ShareKeeper x = keeper(0, 10);
        x.promise(0, 1, 500, false);
        x.promise(0, 1, 0, false);
        x.promise(0, 1, 1000, false);
        Check.due("nothing has come", x.span(0, 0, SURE), 0);
        Check.due("above NOW", x.span(0, 600, SURE), 0);
        Check.due("share 0", x.span(1, 0, SURE), 1);
        Check.due("share 1000", x.span(2, 0, SURE), 0);
        x.count(0, 0, 0, 0, 1);
        Check.due("share 0", x.span(1, 0, SURE), 1);
        Check.due("share 1000", x.span(2, 0, SURE), 2);
        x.ticks(1);
        Check.due("none may come: 1 bad of 1", x.span(0, 0, SURE), 2);
        x.count(0, 1, 1, 1, 1);
        x.ticks(1);
        Check.due("none may come: 1 bad of 2", x.span(0, 1, SURE), 1);
        ShareKeeper y = new ShareKeeper();
        y.service();
        y.promise(0, 1, 500, false);
        Check.due("without SOURCES", y.span(0, 0, SURE), 1);
    }

    private static void settledBehindTheLatest() {
        Check.sentence("Terms 2", "settled at the first tick NOW at which no SOURCE .. has an OPEN tick in it");
        ShareKeeper x = new ShareKeeper();
        x.service();
        x.service();
        x.promise(0, 4, 500, false);
        x.promise(0, 4, 500, true);
        x.promise(1, 4, 500, false);
        x.source(1, 5, 5);
        x.source(0, 0, 5);
        Check.due("LATE 0", x.span(0, 9, SETTLED), 10);
        Check.due("LATE 0, fixed", x.span(1, 9, SETTLED), 12);
        x.source(0, 9, 5);
        x.source(0, 3, 5);
        Check.due("LATE 9", x.span(0, 9, SETTLED), 19);
        Check.due("LATE 9, fixed", x.span(1, 9, SETTLED), 21);
        Check.due("LATE 5 of the other SERVICE", x.span(2, 9, SETTLED), 15);
        Check.due("at tick 0", x.span(0, 0, SETTLED), 10);
        Check.due("at tick 0, fixed", x.span(1, 0, SETTLED), 13);
        x.ticks(600);
        Check.due("when NOW is far beyond", x.span(0, 9, SETTLED), 19);
        Check.due("when NOW is far beyond", x.span(1, 9, SETTLED), 21);
    }

    /** A tick whose MOST asks have come is OPEN all the same. */
    private static void settledAsSumsTell() {
        Check.sentence("Terms 1, 2", "OPEN is a tick .. not more than LATE below NOW; settled");
        ShareKeeper x = keeper(2, 10);
        x.promise(0, 3, 500, false);
        x.ticks(5);
        Check.due("nothing has come", x.span(0, 5, SETTLED), 8);
        for (int t = 3; t <= 5; t++) {
            x.count(0, t, t, 10, 0);
        }
        Check.due("all has come", x.span(0, 5, SETTLED), 8);
        ShareKeeper y = keeper(2, 10);
        y.promise(0, 3, 500, false);
        y.ticks(7);
        Check.due("one tick may come at 7", y.span(0, 5, MOST), 5);
        y.ticks(1);
        Check.due("none may come at 8", y.span(0, 5, MOST), 0);
    }

    private static void settledWithGrace() {
        Check.sentence("Terms 2", "those of GRACE are left out; settled");
        ShareKeeper x = keeper(9, 10);
        x.promise(0, 4, 500, false);
        x.promise(0, 4, 500, true);
        x.grace(0, 8, 9);
        Check.due("6 to 7 are left", x.span(0, 9, SETTLED), 17);
        Check.due("7 and 10 are left", x.span(0, 10, SETTLED), 20);
        Check.due("10 to 12 are left", x.span(0, 12, SETTLED), 22);
        x.grace(1, 11, 11);
        Check.due("8 to 10 are left", x.span(1, 8, SETTLED), 20);
        Check.due("at the tick of GRACE itself", x.span(1, 11, SETTLED), 20);
    }

    private static void settledWithoutTicks() {
        Check.sentence("Terms 2", "(0 without ticks ..)");
        ShareKeeper x = keeper(9, 10);
        x.promise(0, 4, 500, false);
        x.promise(0, 4, 500, true);
        x.grace(0, 6, 9);
        x.grace(1, 8, 11);
        Check.due("all are GRACE", x.span(0, 9, SETTLED), 0);
        Check.due("one is left", x.span(0, 8, SETTLED), 15);
        Check.due("one is left", x.span(0, 10, SETTLED), 20);
        Check.due("all are GRACE, fixed", x.span(1, 8, SETTLED), 0);
        Check.due("all are GRACE, fixed", x.span(1, 11, SETTLED), 0);
        Check.due("the next", x.span(1, 12, SETTLED), 25);
        x.ticks(9);
        Check.spanDue(x, 0, 9, 0, 0, 0, 1, 1, 0, 0, 0);
    }

    private static void settledWithoutSources() {
        Check.sentence("Terms 2", "(0 without .. SOURCES)");
        ShareKeeper x = new ShareKeeper();
        x.service();
        x.service();
        x.promise(0, 4, 500, false);
        x.promise(0, 4, 500, true);
        Check.due("none at all", x.span(0, 9, SETTLED), 0);
        Check.due("none at all", x.span(1, 9, SETTLED), 0);
        x.source(1, 5, 5);
        Check.due("none of its SERVICE", x.span(0, 9, SETTLED), 0);
        x.ticks(20);
        Check.due("nor later", x.span(0, 9, SETTLED), 0);
        x.source(0, 5, 5);
        Check.due("one of its SERVICE", x.span(0, 9, SETTLED), 15);
    }

    private static void settledAt600() {
        Check.sentence("Terms 1, 2", "600 at most; settled");
        ShareKeeper x = keeper(60, 10);
        x.promise(0, 200, 500, false);
        Check.due("LATE 60 at 539", x.span(0, 539, SETTLED), 600);
        ShareKeeper y = keeper(0, 10);
        y.promise(0, 200, 500, true);
        y.promise(0, 1, 500, true);
        Check.due("400 to 599", y.span(0, 400, SETTLED), 600);
        Check.due("LATE 0 at 599", y.span(1, 599, SETTLED), 600);
        y.ticks(600);
        Check.due("it is settled then", y.span(0, 400, LEAST), 0);
    }

    /** Tick 600 is OPEN as long as NOW goes: no tick up to 600 is the one at which it is settled. */
    private static void settledNeverUpTo600() {
        Check.sentence("Terms 1, 2", "600 at most; settled at the first tick NOW at which no SOURCE has an OPEN tick");
        ShareKeeper x = keeper(0, 10);
        x.promise(0, 1, 500, false);
        x.promise(0, 7, 500, true);
        for (int i = 0; i < 2; i++) {
            for (int promise = 0; promise < 2; promise++) {
                int settled = x.span(promise, 600, SETTLED);
                Check.due(settled + " is a tick 0 .. 600", settled >= 0 && settled <= 600, false);
            }
            x.ticks(600 - x.desk(2));
        }
    }

    private static void greatNumbers() {
        Check.sentence("Terms 2", "LEFT is A * (1000 - SHARE) / 1000, cut downwards, less B");
        ShareKeeper x = new ShareKeeper();
        x.service();
        for (int i = 0; i < 16; i++) {
            x.source(0, 60, 1000);
        }
        x.promise(0, 200, 1, false);
        x.promise(0, 200, 1000, true);
        x.promise(0, 200, 0, true);
        Check.spanDue(x, 0, 600, 0, -3200, 3196800, 1, 0);
        Check.spanDue(x, 1, 599, 0, -3200000, 0, 1, 0);
        Check.spanDue(x, 2, 599, 0, 0, 3200000, 1, 1);
        x.ticks(600);
        for (int i = 0; i < 16; i++) {
            x.count(i, 0, 600, 0, 1000);
        }
        Check.due("LEFT", x.span(0, 600, LEFT), -16);
        Check.due("asks", x.span(0, 600, ASKS), 16000);
    }

    private static void ordinaryRolling() {
        Check.sentence("Promise 9", "Of a PROMISE's span at a tick (0 .. 600)");
        ShareKeeper x = keeper(60, 20);
        x.promise(0, 3, 800, false);
        x.ticks(6);
        x.count(0, 0, 0, 8, 2);
        x.count(0, 1, 2, 5, 5);
        x.count(0, 2, 3, 20, 0);
        Check.spanDue(x, 0, 0, 0, -8, 2, 1, 0, 61, 10, 2);
        Check.spanDue(x, 0, 1, 0, -24, 6, 1, 0, 62, 10, 2);
        Check.spanDue(x, 0, 2, -3, -35, 5, 0, 0, 63, 20, 7);
        Check.spanDue(x, 0, 3, 1, -23, 7, 1, 0, 64, 30, 5);
        Check.spanDue(x, 0, 4, 1, -23, 7, 1, 0, 65, 30, 5);
        Check.spanDue(x, 0, 5, 4, -28, 12, 1, 0, 66, 20, 0);
    }

    private static void ordinaryFixed() {
        Check.sentence("Promise 9", "Of a PROMISE's span at a tick (0 .. 600)");
        ShareKeeper x = keeper(1, 20);
        x.promise(0, 3, 800, true);
        x.ticks(2);
        x.count(0, 0, 2, 5, 5);
        x.ticks(2);
        x.count(0, 1, 3, 20, 0);
        x.count(0, 2, 4, 10, 2);
        for (int tick = 0; tick <= 2; tick++) {
            Check.spanDue(x, 0, tick, -3, -3, -3, 0, 2, 4, 10, 5);
        }
        for (int tick = 3; tick <= 5; tick++) {
            Check.spanDue(x, 0, tick, 4, -18, 10, 1, 0, 7, 32, 2);
        }
        Check.spanDue(x, 0, 6, 0, -48, 12, 1, 0, 10, 0, 0);
    }

    private static void noSuchPromise() {
        Check.sentence("Promise 9", "NoSuchElementException: none such (PROMISE)");
        ShareKeeper none = new ShareKeeper();
        none.service();
        for (int what = 0; what <= 7; what++) {
            Check.noSpan(none, 0, 0, what);
        }
        ShareKeeper x = keeper(0, 10);
        x.promise(0, 4, 500, false);
        x.promise(0, 4, 500, true);
        for (int what = 0; what <= 7; what++) {
            Check.noSpan(x, -1, 0, what);
            Check.noSpan(x, 2, 0, what);
        }
        for (int wild : Check.WILD) {
            Check.noSpan(x, wild, 0, 0);
        }
        Check.spanDue(x, 1, 0, 0, -20, 20, 1, 0, 4, 0, 0);
    }

    private static void noSuchTick() {
        Check.sentence("Promise 9", "at a tick (0 .. 600); NoSuchElementException: none such");
        ShareKeeper x = keeper(0, 10);
        x.promise(0, 4, 500, false);
        x.promise(0, 4, 500, true);
        for (int what = 0; what <= 7; what++) {
            for (int promise = 0; promise <= 1; promise++) {
                Check.noSpan(x, promise, -1, what);
                Check.noSpan(x, promise, 601, what);
            }
        }
        for (int wild : Check.WILD) {
            Check.noSpan(x, 0, wild, 0);
            Check.noSpan(x, 1, wild, 5);
        }
        Check.spanDue(x, 0, 0, 0, -5, 5, 1, 0, 1, 0, 0);
        Check.spanDue(x, 0, 600, 0, -20, 20, 1, 0);
        Check.due("tick 600", x.span(1, 600, BAD), 0);
    }

    private static void noSuchWhat() {
        Check.sentence("Promise 9", "what 0: LEFT .. 7: bad ones in it; NoSuchElementException: none such");
        ShareKeeper x = keeper(0, 10);
        x.promise(0, 4, 500, false);
        Check.noSpan(x, 0, 0, -1);
        Check.noSpan(x, 0, 0, 8);
        Check.noSpan(x, 0, 0, 9);
        for (int wild : Check.WILD) {
            Check.noSpan(x, 0, 0, wild);
        }
        x.count(0, 0, 0, 5, 3);
        Check.spanDue(x, 0, 0, 1, 0, 2, 1, 1, 1, 8, 3);
    }
}

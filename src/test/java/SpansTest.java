/** Promises 6, 7, 9 and 10: promises, their grace, their spans, and the first broken one. */
public final class SpansTest {
    public static void main(String[] args) {
        promises();
        rolling();
        fixed();
        fixedCutAtTheEnd();
        cutDownwards();
        shares();
        verdicts();
        greatNumbers();
        graceRows();
        graceInSpans();
        settled();
        noSuchSpan();
        broken();
        brokenFixed();
        brokenGrace();
        Check.finish();
    }

    private static ShareKeeper keeper(int late, int most) {
        ShareKeeper x = new ShareKeeper();
        x.service();
        x.source(0, late, most);
        return x;
    }

    private static void promises() {
        ShareKeeper x = new ShareKeeper();
        Check.due("no service", x.promise(0, 1, 0, false), Check.NONE);
        x.service();
        Check.due("w 0", x.promise(0, 0, 0, false), Check.NONE);
        Check.due("w 201", x.promise(0, 201, 0, true), Check.NONE);
        Check.due("share -1", x.promise(0, 1, -1, true), Check.NONE);
        Check.due("share 1001", x.promise(0, 1, 1001, false), Check.NONE);
        for (int wild : Check.WILD) {
            Check.due("service " + wild, x.promise(wild, 1, 1, true), Check.NONE);
            Check.due("w " + wild, x.promise(0, wild, 1, true), Check.NONE);
            Check.due("share " + wild, x.promise(0, 1, wild, true), Check.NONE);
        }
        Check.due("desk(3)", x.desk(3), 0);
        Check.due("least", x.promise(0, 1, 0, false), 0);
        Check.due("greatest", x.promise(0, 200, 1000, true), 1);
        for (int i = 2; i < 12; i++) {
            Check.due("promise", x.promise(0, i, i, i % 2 == 0), i);
        }
        Check.due("beyond 12", x.promise(0, 1, 0, false), Check.NONE);
        Check.due("desk(3) at 12", x.desk(3), 12);
    }

    private static void rolling() {
        ShareKeeper x = keeper(60, 20);
        x.promise(0, 3, 800, false);
        x.ticks(6);
        x.count(0, 0, 0, 8, 2);
        x.count(0, 1, 2, 5, 5);
        x.count(0, 2, 3, 20, 0);
        Check.spanDue(x, 0, 0, 0, -8, 2, 1, 0, 61, 10, 2);
        Check.spanDue(x, 0, 1, 0, -24, 6, 1, 0, 62, 10, 2);
        Check.spanDue(x, 0, 2, -3, -35, 5, 0, 0, 63, 20, 7);
        Check.spanDue(x, 0, 3, 1, -23, 7, 1, 0, 64, 30, 5);
        Check.spanDue(x, 0, 4, 1, -23, 7, 1, 0, 65, 30, 5);
        Check.spanDue(x, 0, 5, 4, -28, 12, 1, 0, 66, 20, 0);
        Check.spanDue(x, 0, 600, 0, -48, 12, 1, 0, 661, 0, 0);
    }

    private static void fixed() {
        ShareKeeper x = keeper(1, 20);
        x.promise(0, 3, 800, true);
        x.ticks(2);
        x.count(0, 0, 2, 5, 5);
        x.ticks(2);
        x.count(0, 1, 3, 20, 0);
        x.count(0, 2, 4, 10, 2);
        for (int tick = 0; tick <= 2; tick++) {
            Check.spanDue(x, 0, tick, -3, -3, -3, 0, 2, 4, 10, 5);
        }
        for (int tick = 3; tick <= 5; tick++) {
            Check.spanDue(x, 0, tick, 4, -18, 10, 1, 0, 7, 32, 2);
        }
        Check.spanDue(x, 0, 6, 0, -48, 12, 1, 0, 10, 0, 0);
    }

    private static void fixedCutAtTheEnd() {
        ShareKeeper x = keeper(0, 10);
        x.promise(0, 200, 900, true);
        x.promise(0, 7, 900, true);
        Check.spanDue(x, 0, 600, 0, -9, 1, 1, 0, 601, 0, 0);
        Check.spanDue(x, 0, 599, 0, -1800, 200, 1, 0, 600, 0, 0);
        Check.spanDue(x, 1, 597, 0, -54, 6, 1, 0, 601, 0, 0);
        x.ticks(600);
        Check.spanDue(x, 0, 599, 0, 0, 0, 1, 1, 600, 0, 0);
    }

    private static void cutDownwards() {
        ShareKeeper x = keeper(0, 1000);
        x.promise(0, 1, 995, false);
        x.count(0, 0, 0, 198, 1);
        Check.spanDue(x, 0, 0, -1, -797, 4, 0, 0, 1, 199, 1);
        x.count(0, 1, 0, 1, 0);
        Check.spanDue(x, 0, 0, 0, -796, 4, 1, 0, 1, 200, 1);
        x.count(0, 2, 0, 199, 0);
        Check.spanDue(x, 0, 0, 0, -597, 4, 1, 0, 1, 399, 1);
    }

    private static void shares() {
        ShareKeeper x = keeper(0, 100);
        x.promise(0, 1, 0, false);
        x.promise(0, 1, 1000, false);
        x.count(0, 0, 0, 30, 50);
        Check.spanDue(x, 0, 0, 30, 30, 50, 1, 1, 1, 80, 50);
        Check.spanDue(x, 1, 0, -50, -70, -50, 0, 2, 1, 80, 50);
    }

    private static void verdicts() {
        ShareKeeper x = keeper(0, 10);
        x.promise(0, 2, 500, false);
        x.count(0, 0, 0, 10, 0);
        x.ticks(1);
        x.count(0, 1, 1, 0, 1);
        Check.due("least 0 is surely whole", x.span(0, 1, 1), 0);
        Check.due("surely whole", x.span(0, 1, 4), 1);
        Check.due("least below 0 is open", x.span(0, 2, 1), -10);
        Check.due("open", x.span(0, 2, 4), 0);
        ShareKeeper y = keeper(0, 10);
        y.promise(0, 1, 500, false);
        y.count(0, 0, 0, 0, 5);
        Check.due("most 0 is open", y.span(0, 0, 2), 0);
        Check.due("open", y.span(0, 0, 4), 0);
        y.count(0, 1, 0, 0, 1);
        Check.due("most -1", y.span(0, 0, 2), -1);
        Check.due("surely broken", y.span(0, 0, 4), 2);
    }

    private static void greatNumbers() {
        ShareKeeper x = new ShareKeeper();
        x.service();
        for (int i = 0; i < 16; i++) {
            x.source(0, 60, 1000);
        }
        x.promise(0, 200, 1, false);
        x.promise(0, 200, 1000, true);
        Check.spanDue(x, 0, 600, 0, -3200, 3196800, 1, 0, 661, 0, 0);
        Check.spanDue(x, 1, 599, 0, -3200000, 0, 1, 0, 660, 0, 0);
    }

    private static void graceRows() {
        ShareKeeper x = keeper(0, 10);
        x.promise(0, 5, 900, false);
        x.promise(0, 5, 900, false);
        Check.due("low at NOW", x.grace(0, 0, 5), false);
        x.ticks(5);
        Check.due("low at NOW", x.grace(0, 5, 9), false);
        Check.due("low below NOW", x.grace(0, 4, 9), false);
        Check.due("high below low", x.grace(0, 7, 6), false);
        Check.due("high 601", x.grace(0, 7, 601), false);
        Check.due("no promise", x.grace(2, 7, 9), false);
        for (int wild : Check.WILD) {
            Check.due("promise " + wild, x.grace(wild, 7, 9), false);
            Check.due("low " + wild, x.grace(0, wild, 600), false);
            Check.due("high " + wild, x.grace(0, 7, wild), false);
            Check.due("both " + wild, x.grace(0, wild, wild), false);
        }
        Check.due("the first", x.grace(0, 6, 6), true);
        Check.due("the same", x.grace(0, 6, 6), true);
        for (int i = 2; i < 10; i++) {
            Check.due("a row", x.grace(0, 600, 600), true);
        }
        Check.due("beyond 10", x.grace(0, 8, 8), false);
        Check.due("another promise", x.grace(1, 6, 600), true);
        Check.due("the refused row leaves nothing out", x.span(0, 8, 5), 9);
    }

    private static void graceInSpans() {
        ShareKeeper x = keeper(5, 10);
        x.promise(0, 4, 500, false);
        x.promise(0, 4, 500, true);
        x.promise(0, 4, 500, false);
        Check.due("grace", x.grace(0, 2, 3), true);
        Check.due("grace", x.grace(1, 4, 7), true);
        x.ticks(5);
        x.count(0, 0, 2, 0, 7);
        x.count(0, 1, 4, 6, 1);
        x.count(0, 2, 5, 1, 2);
        Check.spanDue(x, 0, 5, 2, -3, 7, 1, 0, 11, 10, 3);
        Check.spanDue(x, 1, 5, 0, 0, 0, 1, 1, 0, 0, 0);
        Check.spanDue(x, 1, 3, -4, -20, 13, 0, 0, 9, 7, 7);
        Check.spanDue(x, 2, 5, -2, -13, 10, 0, 0, 11, 17, 10);
        Check.due("sums know no grace", x.sum(0, 2, 5, 1), 10);
    }

    private static void settled() {
        ShareKeeper x = new ShareKeeper();
        x.service();
        x.service();
        x.promise(0, 4, 500, false);
        x.promise(0, 4, 500, true);
        Check.due("without sources", x.span(0, 9, 5), 0);
        x.source(1, 60, 5);
        Check.due("source of another service", x.span(0, 9, 5), 0);
        x.source(0, 3, 5);
        x.source(0, 9, 5);
        x.source(0, 0, 5);
        Check.due("the latest source", x.span(0, 9, 5), 19);
        Check.due("the fixed span", x.span(1, 9, 5), 21);
        Check.due("at tick 0", x.span(0, 0, 5), 10);
        Check.due("beyond 600", x.span(0, 600, 5), 610);
        x.grace(0, 8, 9);
        Check.due("the last tick without grace", x.span(0, 9, 5), 17);
        x.grace(0, 6, 7);
        Check.due("without ticks", x.span(0, 9, 5), 0);
        Check.due("grace between", x.span(0, 10, 5), 20);
        x.ticks(600);
        Check.due("it does not depend on NOW", x.span(1, 9, 5), 21);
    }

    private static void noSuchSpan() {
        ShareKeeper x = keeper(0, 10);
        x.promise(0, 4, 500, false);
        Check.noSpan(x, 1, 0, 0);
        Check.noSpan(x, 0, -1, 0);
        Check.noSpan(x, 0, 601, 0);
        Check.noSpan(x, 0, 0, -1);
        Check.noSpan(x, 0, 0, 8);
        for (int wild : Check.WILD) {
            Check.noSpan(x, wild, 0, 0);
            Check.noSpan(x, 0, wild, 0);
            Check.noSpan(x, 0, 0, wild);
        }
        Check.due("nothing has changed", x.span(0, 600, 7), 0);
    }

    private static void broken() {
        ShareKeeper x = keeper(60, 1000);
        x.promise(0, 3, 900, false);
        Check.due("nothing has come", x.broken(0, 0), Check.NONE);
        x.ticks(50);
        x.count(0, 0, 20, 8, 2);
        Check.due("from 0", x.broken(0, 0), 20);
        Check.due("from 20", x.broken(0, 20), 20);
        Check.due("from 21", x.broken(0, 21), 21);
        Check.due("from 22", x.broken(0, 22), 22);
        Check.due("from 23", x.broken(0, 23), Check.NONE);
        x.count(0, 1, 21, 10, 0);
        Check.due("just whole from 21 on", x.broken(0, 21), Check.NONE);
        x.count(0, 2, 50, 8, 1);
        Check.due("one ask too few", x.broken(0, 21), 50);
        Check.due("above NOW", x.broken(0, 52), 52);
        Check.due("from 600", x.broken(0, 600), Check.NONE);
        Check.due("no promise", x.broken(1, 0), Check.NONE);
        Check.due("from -1", x.broken(0, -1), Check.NONE);
        Check.due("from 601", x.broken(0, 601), Check.NONE);
        for (int wild : Check.WILD) {
            Check.due("promise " + wild, x.broken(wild, 0), Check.NONE);
            Check.due("from " + wild, x.broken(0, wild), Check.NONE);
        }
        ShareKeeper y = keeper(0, 10);
        y.promise(0, 1, 1000, false);
        y.ticks(600);
        y.count(0, 0, 600, 9, 1);
        Check.due("the last tick", y.broken(0, 0), 600);
        Check.due("from the last tick", y.broken(0, 600), 600);
    }

    private static void brokenFixed() {
        ShareKeeper x = keeper(0, 1000);
        x.promise(0, 10, 900, true);
        x.ticks(25);
        x.count(0, 0, 25, 0, 1);
        Check.due("the whole span is broken from its start", x.broken(0, 0), 20);
        Check.due("from within", x.broken(0, 24), 24);
        Check.due("its last tick", x.broken(0, 29), 29);
        Check.due("behind it", x.broken(0, 30), Check.NONE);
        x.ticks(575);
        x.count(0, 1, 600, 0, 1);
        Check.due("the cut span at the end", x.broken(0, 30), 600);
    }

    private static void brokenGrace() {
        ShareKeeper x = keeper(60, 1000);
        x.promise(0, 4, 900, false);
        x.promise(0, 4, 900, true);
        x.grace(0, 10, 11);
        x.grace(1, 10, 11);
        x.ticks(20);
        x.count(0, 0, 10, 0, 5);
        x.count(0, 1, 11, 0, 5);
        Check.due("grace is left out", x.broken(0, 0), Check.NONE);
        Check.due("grace is left out of fixed", x.broken(1, 0), Check.NONE);
        x.count(0, 2, 9, 0, 1);
        Check.due("the tick ahead", x.broken(0, 0), 9);
        Check.due("a tick of grace has a span too", x.broken(0, 10), 10);
        Check.due("up to 12", x.broken(0, 12), 12);
        Check.due("and no more", x.broken(0, 13), Check.NONE);
        Check.due("fixed", x.broken(1, 0), 8);
    }
}

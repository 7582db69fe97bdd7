/** Promise 8: sums, and what Terms 1 says of OPEN ticks. */
public final class SumsTest {
    public static void main(String[] args) {
        asksAndBad();
        endsOfSums();
        openBelowNow();
        openAboveNow();
        openAtTheEnd();
        whatHasNotCome();
        openOfSources();
        openOfNewSource();
        greatSums();
        noSuchService();
        noSuchWhat();
        lowBelowZero();
        highBelowLow();
        highAbove600();
        Check.finish();
    }

    private static ShareKeeper keeper(int late, int most, int now) {
        ShareKeeper x = new ShareKeeper();
        x.service();
        x.source(0, late, most);
        x.ticks(now);
        return x;
    }

    private static void asksAndBad() {
        Check.sentence("Promise 8", "what 0: asks, 1: bad ones");
        ShareKeeper x = keeper(5, 100, 5);
        Check.due("nothing came", x.sum(0, 0, 600, 0), 0);
        Check.due("nothing bad came", x.sum(0, 0, 600, 1), 0);
        x.count(0, 0, 3, 7, 0);
        x.count(0, 1, 3, 0, 5);
        x.count(0, 2, 4, 10, 20);
        Check.due("asks", x.sum(0, 0, 5, 0), 42);
        Check.due("bad ones", x.sum(0, 0, 5, 1), 25);
        Check.due("asks of one tick", x.sum(0, 3, 3, 0), 12);
        Check.due("bad ones of one tick", x.sum(0, 3, 3, 1), 5);
    }

    /** Each tick has a power of two of its own, so that a sum tells which ticks are in it. */
    private static void endsOfSums() {
        Check.sentence("Promise 8", "Of a SERVICE in ticks low to high");
        ShareKeeper x = keeper(60, 1000, 9);
        for (int t = 0; t <= 9; t++) {
            x.count(0, t, t, 0, 1 << t);
        }
        for (int what = 0; what <= 1; what++) {
            Check.due("2 to 5", x.sum(0, 2, 5, what), 4 + 8 + 16 + 32);
            Check.due("0 to 0", x.sum(0, 0, 0, what), 1);
            Check.due("9 to 9", x.sum(0, 9, 9, what), 512);
            Check.due("0 to 600", x.sum(0, 0, 600, what), 1023);
            Check.due("1 to 600", x.sum(0, 1, 600, what), 1022);
            Check.due("0 to 8", x.sum(0, 0, 8, what), 511);
            Check.due("10 to 600", x.sum(0, 10, 600, what), 0);
            Check.due("600 to 600", x.sum(0, 600, 600, what), 0);
        }
        ShareKeeper y = keeper(0, 10, 600);
        y.count(0, 0, 600, 3, 4);
        Check.due("600 to 600", y.sum(0, 600, 600, 0), 7);
        Check.due("599 to 600", y.sum(0, 599, 600, 1), 4);
        Check.due("0 to 599", y.sum(0, 0, 599, 0), 0);
    }

    private static void openBelowNow() {
        Check.sentence("Terms 1", "OPEN is a tick of a SOURCE that is not more than LATE below NOW");
        for (int late : new int[] {0, 1, 30, 60}) {
            ShareKeeper x = keeper(late, 10, 100);
            Check.due("NOW with LATE " + late, x.sum(0, 100, 100, 2), 10);
            Check.due("LATE " + late + " below NOW", x.sum(0, 100 - late, 100 - late, 2), 10);
            Check.due("one more than LATE " + late, x.sum(0, 99 - late, 99 - late, 2), 0);
            Check.due("0 to NOW with LATE " + late, x.sum(0, 0, 100, 2), 10 * (late + 1));
            x.ticks(1);
            Check.due("a tick later", x.sum(0, 100 - late, 100 - late, 2), 0);
        }
        ShareKeeper y = keeper(60, 10, 60);
        Check.due("tick 0 at NOW 60", y.sum(0, 0, 0, 2), 10);
        y.ticks(1);
        Check.due("tick 0 at NOW 61", y.sum(0, 0, 0, 2), 0);
        Check.due("tick 1 at NOW 61", y.sum(0, 1, 1, 2), 10);
    }

    private static void openAboveNow() {
        Check.sentence("Terms 1", "or above NOW");
        ShareKeeper x = keeper(0, 10, 5);
        Check.due("the next tick", x.sum(0, 6, 6, 2), 10);
        Check.due("tick 600", x.sum(0, 600, 600, 2), 10);
        Check.due("all of them", x.sum(0, 6, 600, 2), 5950);
        Check.due("with NOW", x.sum(0, 5, 600, 2), 5960);
        Check.due("with what was", x.sum(0, 0, 600, 2), 5960);
    }

    private static void openAtTheEnd() {
        Check.sentence("Terms 1", "OPEN is a tick of a SOURCE; 600 at most");
        ShareKeeper x = keeper(60, 10, 600);
        Check.due("540 to 600", x.sum(0, 540, 600, 2), 610);
        Check.due("539", x.sum(0, 539, 539, 2), 0);
        Check.due("all", x.sum(0, 0, 600, 2), 610);
        ShareKeeper y = keeper(0, 10, 600);
        Check.due("600", y.sum(0, 600, 600, 2), 10);
        Check.due("all", y.sum(0, 0, 600, 2), 10);
    }

    private static void whatHasNotCome() {
        Check.sentence("Terms 1", "what of its MOST asks has not come may still come");
        ShareKeeper x = keeper(2, 10, 5);
        x.count(0, 0, 4, 3, 1);
        Check.due("6 of 10", x.sum(0, 4, 4, 2), 6);
        x.count(0, 1, 4, 0, 5);
        Check.due("1 of 10", x.sum(0, 4, 4, 2), 1);
        x.count(0, 2, 4, 1, 0);
        Check.due("none of 10", x.sum(0, 4, 4, 2), 0);
        Check.due("of the ticks around it", x.sum(0, 3, 5, 2), 20);
        x.count(0, 3, 3, 2, 0);
        Check.due("of the ticks around it", x.sum(0, 3, 5, 2), 18);
        x.ticks(1);
        Check.due("what came of a tick that is not OPEN", x.sum(0, 0, 5, 2), 10);
    }

    private static void openOfSources() {
        Check.sentence("Terms 1", "OPEN is a tick of a SOURCE");
        ShareKeeper x = keeper(2, 10, 5);
        x.service();
        x.source(0, 0, 100);
        x.source(1, 60, 7);
        Check.due("both at NOW", x.sum(0, 5, 5, 2), 110);
        Check.due("one below NOW", x.sum(0, 4, 4, 2), 10);
        Check.due("none", x.sum(0, 2, 2, 2), 0);
        Check.due("of the other SERVICE", x.sum(1, 0, 5, 2), 42);
        x.count(1, 0, 5, 50, 0);
        Check.due("of each its own", x.sum(0, 5, 5, 2), 60);
        x.count(2, 0, 5, 4, 0);
        Check.due("what came of the other SERVICE", x.sum(0, 5, 5, 2), 60);
        Check.due("of the other SERVICE", x.sum(1, 0, 5, 2), 38);
        ShareKeeper y = new ShareKeeper();
        y.service();
        Check.due("without SOURCES", y.sum(0, 0, 600, 2), 0);
    }

    private static void openOfNewSource() {
        Check.sentence("Terms 1", "OPEN is a tick of a SOURCE (one that is told later)");
        ShareKeeper x = keeper(2, 10, 100);
        Check.due("of the first alone", x.sum(0, 0, 100, 2), 30);
        x.source(0, 60, 3);
        Check.due("of both", x.sum(0, 0, 100, 2), 30 + 61 * 3);
        Check.due("40", x.sum(0, 40, 40, 2), 3);
        Check.due("39", x.sum(0, 39, 39, 2), 0);
        Check.due("a count of 40", x.count(1, 0, 40, 0, 2), 0);
        Check.due("what has not come of 40", x.sum(0, 40, 40, 2), 1);
    }

    private static void greatSums() {
        Check.sentence("Promise 8", "2: most asks that may still come");
        ShareKeeper x = new ShareKeeper();
        x.service();
        for (int i = 0; i < 16; i++) {
            x.source(0, 60, 1000);
        }
        Check.due("all of them", x.sum(0, 0, 600, 2), 16 * 1000 * 601);
    }

    private static void noSuchService() {
        Check.sentence("Promise 8", "NONE: no such SERVICE");
        ShareKeeper none = new ShareKeeper();
        Check.due("without SERVICES", none.sum(0, 0, 0, 0), Check.NONE);
        ShareKeeper x = keeper(0, 10, 0);
        x.service();
        for (int what = 0; what <= 2; what++) {
            int asked = what;
            Check.none("sum(s, 0, 0, " + what + ")", s -> x.sum(s, 0, 0, asked), -1, 2, 3);
        }
        Check.due("the last one", x.sum(1, 0, 0, 0), 0);
    }

    private static void noSuchWhat() {
        Check.sentence("Promise 8", "NONE: no such SERVICE, what");
        ShareKeeper x = keeper(0, 10, 0);
        x.count(0, 0, 0, 1, 2);
        Check.none("sum(0, 0, 0, what)", what -> x.sum(0, 0, 0, what), -1, 3, 4);
        Check.due("what 0", x.sum(0, 0, 0, 0), 3);
        Check.due("what 1", x.sum(0, 0, 0, 1), 2);
        Check.due("what 2", x.sum(0, 0, 0, 2), 7);
    }

    private static void lowBelowZero() {
        Check.sentence("Promise 8", "NONE: low below 0");
        ShareKeeper x = keeper(0, 10, 0);
        for (int what = 0; what <= 2; what++) {
            Check.due("-1 to 0", x.sum(0, -1, 0, what), Check.NONE);
            Check.due("-1 to -1", x.sum(0, -1, -1, what), Check.NONE);
            Check.due("-1 to 600", x.sum(0, -1, 600, what), Check.NONE);
        }
        Check.none("sum(0, low, 600, 0)", low -> x.sum(0, low, 600, 0));
        Check.due("0 to 0", x.sum(0, 0, 0, 2), 10);
    }

    private static void highBelowLow() {
        Check.sentence("Promise 8", "NONE: high below low");
        ShareKeeper x = keeper(0, 10, 0);
        for (int what = 0; what <= 2; what++) {
            Check.due("5 to 4", x.sum(0, 5, 4, what), Check.NONE);
            Check.due("1 to 0", x.sum(0, 1, 0, what), Check.NONE);
            Check.due("600 to 599", x.sum(0, 600, 599, what), Check.NONE);
            Check.due("0 to -1", x.sum(0, 0, -1, what), Check.NONE);
        }
        Check.due("5 to 5", x.sum(0, 5, 5, 2), 10);
    }

    private static void highAbove600() {
        Check.sentence("Promise 8", "NONE: high above 600");
        ShareKeeper x = keeper(0, 10, 600);
        for (int what = 0; what <= 2; what++) {
            Check.due("0 to 601", x.sum(0, 0, 601, what), Check.NONE);
            Check.due("600 to 601", x.sum(0, 600, 601, what), Check.NONE);
            Check.due("601 to 601", x.sum(0, 601, 601, what), Check.NONE);
        }
        Check.none("sum(0, 0, high, 0)", high -> x.sum(0, 0, high, 0));
        Check.none("sum(0, v, v, 0)", v -> x.sum(0, v, v, 0));
        Check.due("600 to 600", x.sum(0, 600, 600, 2), 10);
    }
}

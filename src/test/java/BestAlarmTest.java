/** Promise 16: the best alarm, and what Terms 4 says of it. */
public final class BestAlarmTest {
    public static void main(String[] args) {
        nothingHasCome();
        longSpansTo12();
        longSpansFullOfBadOnes();
        shortSpansToA();
        longestShortSpan();
        ratesFrom10();
        justAbove();
        ratesTo200();
        ratesByTen();
        ringsInThatHistory();
        lettingPPassAtMost();
        fewestTicks();
        fromTickZero();
        upToNow();
        byTheCountsThatHaveCome();
        graceCounts();
        leastA();
        leastB();
        leastR();
        ofItsService();
        edgesOfShare();
        noSuchPromise();
        otherM();
        otherE();
        otherP();
        Check.finish();
    }

    private static ShareKeeper keeper(int share) {
        ShareKeeper x = new ShareKeeper();
        x.service();
        x.source(0, 60, 1000);
        x.promise(0, 10, share, false);
        return x;
    }

    private static void nothingHasCome() {
        Check.sentence("Promise 16", "The BEST alarm: 1000000 * a + 1000 * b + r");
        ShareKeeper x = keeper(900);
        Check.due("m 5, e 5", x.best(0, 5, 5, 5), 1001010);
        Check.due("m 300, e 2", x.best(0, 300, 2, 2), 1001010);
        Check.due("m 0, e 10", x.best(0, 0, 10, 10), 1001010);
        x.ticks(600);
        Check.due("at NOW 600", x.best(0, 5, 5, 5), 1001010);
    }

    /** Good asks just a span ahead of the bad ones: only a span that reaches them keeps still. */
    private static void longSpansTo12() {
        Check.sentence("Terms 4", "of a 1 .. 12");
        ShareKeeper x = keeper(900);
        x.ticks(30);
        x.count(0, 0, 20, 0, 10);
        Check.due("all ring once", x.best(0, 100, 2, 100), 1001010);
        x.count(0, 1, 8, 90, 0);
        Check.due("12 ticks ahead is too far", x.best(0, 100, 2, 100), 1001010);
        x.count(0, 2, 9, 90, 0);
        Check.due("11 ticks ahead", x.best(0, 100, 2, 100), 12001010);
        x.count(0, 3, 10, 90, 0);
        Check.due("10 ticks ahead", x.best(0, 100, 2, 100), 11001010);
    }

    /**
     * Eleven ticks of bad ones alone behind a good tick. At the least rate that a - 1 bad ticks of a are not
     * above, a span of a ticks is above at 12 - a ticks, in the history first when it holds bad ticks alone.
     */
    private static void longSpansFullOfBadOnes() {
        Check.sentence("Terms 4", "of a 1 .. 12: letting p pass at most, and rings at the fewest ticks");
        ShareKeeper x = keeper(905);
        x.ticks(20);
        x.count(0, 0, 0, 10, 0);
        for (int t = 1; t <= 11; t++) {
            x.count(0, t, t, 0, 10);
        }
        x.count(0, 12, 12, 1000, 0);
        int[] rates = {10, 60, 80, 80, 90, 90, 100, 100, 100, 100, 100, 100};
        for (int a = 1; a <= 12; a++) {
            int due = 1000000 * a + 1000 + rates[a - 1];
            Check.due("p " + 10 * a, x.best(0, 20, 10, 10 * a), due);
            Check.due("p " + (10 * a + 9), x.best(0, 20, 10, 10 * a + 9), due);
        }
        Check.due("p 9", x.best(0, 20, 10, 9), Check.NONE);
        Check.due("p 100000", x.best(0, 20, 10, 100000), 12001100);
    }

    private static void shortSpansToA() {
        Check.sentence("Terms 4", "b 1 .. a");
        ShareKeeper x = keeper(900);
        x.ticks(5);
        x.count(0, 0, 1, 10, 0);
        x.count(0, 1, 3, 0, 4);
        x.count(0, 2, 4, 5, 4);
        x.count(0, 3, 5, 5, 10);
        Check.due("b 2, not a 2 with b 4", x.best(0, 5, 7, 35), 4002060);
        ShareKeeper y = keeper(900);
        y.ticks(4);
        y.count(0, 0, 0, 15, 0);
        y.count(0, 1, 2, 15, 5);
        y.count(0, 2, 3, 15, 0);
        y.count(0, 3, 4, 0, 3);
        Check.due("b 2, not a 2 with b 3", y.best(0, 10, 3, 29), 3002020);
    }

    /**
     * At 13 all spans but that of 12 are above, at 32 all but that of 11: every other pair rings at one of
     * them. (b 12 with a 12 rings whenever b 1 does, and so is never ahead of it.)
     */
    private static void longestShortSpan() {
        Check.sentence("Terms 4", "of a 1 .. 12, b 1 .. a");
        ShareKeeper x = keeper(900);
        x.ticks(45);
        int[][] counts = {{2, 90, 0}, {13, 0, 10}, {14, 1000, 0}, {20, 9, 0}, {21, 0, 1}, {22, 90, 0},
            {32, 0, 10}, {33, 1000, 0}};
        for (int i = 0; i < counts.length; i++) {
            Check.due("a count", x.count(0, i, counts[i][0], counts[i][1], counts[i][2]), 0);
        }
        Check.due("b 11 with a 12", x.best(0, 100, 2, 100), 12011010);
    }

    private static void ratesFrom10() {
        Check.sentence("Terms 4", "r 10, 20, ..");
        ShareKeeper x = keeper(900);
        Check.due("e 2 is 2.0, above 1.0", x.best(0, 5, 2, 100000), 1001010);
        Check.due("e 1 is 1.0, not above 1.0", x.best(0, 5, 1, 100000), Check.NONE);
        ShareKeeper y = keeper(800);
        Check.due("e 2 is 1.0", y.best(0, 5, 2, 100000), Check.NONE);
        Check.due("e 3 is 1.5", y.best(0, 5, 3, 100000), 1001010);
        ShareKeeper z = keeper(901);
        Check.due("e 1 is just above 1.0", z.best(0, 5, 1, 100000), 1001010);
    }

    private static void justAbove() {
        Check.sentence("Terms 4", "10000 * bad is above r * (1000 - SHARE) * asks");
        ShareKeeper x = keeper(999);
        x.count(0, 0, 0, 998, 1);
        Check.due("1 bad of 999 is above 1.0", x.best(0, 5, 1, 1), 1001020);
        x.count(0, 1, 0, 1, 0);
        Check.due("1 bad of 1000 is not", x.best(0, 5, 1, 1), 1001010);
    }

    private static void ratesTo200() {
        Check.sentence("Terms 4", "r .. 200");
        ShareKeeper x = keeper(990);
        x.count(0, 0, 0, 805, 195);
        Check.due("19.5 keeps 20.0 still", x.best(0, 5, 10, 10), 1001200);
        ShareKeeper y = keeper(990);
        y.count(0, 0, 0, 800, 200);
        Check.due("20.0 keeps 20.0 still", y.best(0, 5, 10, 10), 1001200);
        ShareKeeper z = keeper(990);
        z.count(0, 0, 0, 799, 201);
        Check.due("20.1 keeps none still", z.best(0, 5, 10, 10), 1001010);
    }

    private static void ratesByTen() {
        Check.sentence("Terms 4", "r 10, 20, .. 200");
        ShareKeeper x = keeper(900);
        x.count(0, 0, 0, 855, 145);
        Check.due("1.45 keeps 2.0 still", x.best(0, 5, 5, 5), 1001020);
        ShareKeeper y = keeper(900);
        y.count(0, 0, 0, 890, 110);
        Check.due("1.1 keeps 2.0 still", y.best(0, 5, 5, 5), 1001020);
        ShareKeeper z = keeper(900);
        z.count(0, 0, 0, 900, 100);
        Check.due("1.0 keeps 1.0 still", z.best(0, 5, 5, 5), 1001010);
    }

    private static void ringsInThatHistory() {
        Check.sentence("Terms 4", "it rings in that history by tick 599");
        ShareKeeper x = keeper(900);
        x.count(0, 0, 0, 51, 49);
        Check.due("e 6 is above 5.0", x.best(0, 5, 6, 6), 1001050);
        Check.due("e 5 is not, and all rates below ring", x.best(0, 5, 5, 5), 1001010);
        Check.due("e 0 never rings", x.best(0, 5, 0, 100000), Check.NONE);
        Check.due("m 300", x.best(0, 300, 6, 6), 1001050);
        Check.due("m 0", x.best(0, 0, 6, 6), 1001050);
    }

    private static void lettingPPassAtMost() {
        Check.sentence("Terms 4", "letting p pass at most");
        ShareKeeper x = keeper(900);
        Check.due("5 of 5", x.best(0, 5, 5, 5), 1001010);
        Check.due("5 of 4", x.best(0, 5, 5, 4), Check.NONE);
        Check.due("5 of 0", x.best(0, 5, 5, 0), Check.NONE);
        Check.due("10 of 10 from tick 0 on", x.best(0, 0, 10, 10), 1001010);
        Check.due("10 of 9 from tick 0 on", x.best(0, 0, 10, 9), Check.NONE);
        x.ticks(30);
        x.count(0, 0, 20, 0, 10);
        x.count(0, 1, 9, 90, 0);
        Check.due("7 ticks of 2 pass 14", x.best(0, 100, 2, 14), 12001010);
        Check.due("7 ticks of 2 pass more than 13", x.best(0, 100, 2, 13), 1001010);
        x.count(0, 2, 19, 90, 0);
        Check.due("2 ticks of 2 pass 4", x.best(0, 100, 2, 4), 2001010);
        Check.due("2 ticks of 2 pass more than 3", x.best(0, 100, 2, 3), 1001010);
        Check.due("1 tick of 2 passes 2", x.best(0, 100, 2, 2), 1001010);
        Check.due("1 tick of 2 passes more than 1", x.best(0, 100, 2, 1), Check.NONE);
    }

    private static void fewestTicks() {
        Check.sentence("Terms 4", "rings at the fewest ticks 0 .. NOW");
        ShareKeeper x = keeper(900);
        x.ticks(20);
        x.count(0, 0, 10, 85, 15);
        Check.due("none at 2.0", x.best(0, 5, 5, 5), 1001020);
        x.count(0, 1, 15, 0, 49);
        Check.due("one at 2.0, two at 1.0", x.best(0, 5, 5, 5), 1001020);
        x.count(0, 2, 13, 75, 25);
        Check.due("one at 3.0, two at 2.0", x.best(0, 5, 5, 5), 1001030);
        x.count(0, 3, 14, 100, 0);
        Check.due("none with a 2 at 4.0", x.best(0, 5, 5, 10), 2001040);
    }

    private static void fromTickZero() {
        Check.sentence("Terms 4", "at the fewest ticks 0 .. NOW (tick 0)");
        ShareKeeper x = keeper(900);
        x.count(0, 0, 0, 85, 15);
        Check.due("at NOW 0", x.best(0, 5, 5, 5), 1001020);
        x.ticks(100);
        Check.due("at NOW 100", x.best(0, 5, 5, 5), 1001020);
        ShareKeeper y = keeper(900);
        y.ticks(1);
        y.count(0, 0, 0, 85, 15);
        y.count(0, 1, 1, 100, 0);
        Check.due("at NOW 1", y.best(0, 5, 5, 5), 1001020);
    }

    /** Spans of two and more ticks go on ringing above NOW, where it does not count yet. */
    private static void upToNow() {
        Check.sentence("Terms 4", "at the fewest ticks 0 .. NOW (tick NOW)");
        ShareKeeper x = keeper(900);
        x.ticks(7);
        x.count(0, 0, 7, 85, 15);
        Check.due("NOW counts", x.best(0, 5, 5, 5), 1001020);
        ShareKeeper y = keeper(900);
        y.ticks(600);
        y.count(0, 0, 600, 85, 15);
        Check.due("NOW 600 counts", y.best(0, 5, 5, 5), 1001020);
        ShareKeeper z = keeper(900);
        z.ticks(5);
        z.count(0, 0, 1, 10, 0);
        z.count(0, 1, 3, 0, 4);
        z.count(0, 2, 4, 5, 4);
        z.count(0, 3, 5, 5, 10);
        Check.due("at NOW 5", z.best(0, 5, 7, 35), 4002060);
        z.ticks(1);
        Check.due("at NOW 6 tick 6 counts, too", z.best(0, 5, 7, 35), 5001050);
    }

    private static void byTheCountsThatHaveCome() {
        Check.sentence("Terms 4", "by the counts that have come");
        ShareKeeper x = keeper(900);
        x.ticks(5);
        Check.due("none", x.best(0, 5, 5, 5), 1001010);
        x.count(0, 0, 3, 85, 15);
        Check.due("one", x.best(0, 5, 5, 5), 1001020);
        x.count(0, 0, 3, 0, 900);
        Check.due("one twice", x.best(0, 5, 5, 5), 1001020);
        x.count(0, 1, 3, 0, 10);
        Check.due("two", x.best(0, 5, 5, 5), 1001030);
        x.count(0, 2, 3, 200, 0);
        Check.due("three", x.best(0, 5, 5, 5), 1001010);
    }

    private static void graceCounts() {
        Check.sentence("Terms 4", "(from 0 on; GRACE counts, too)");
        ShareKeeper x = keeper(900);
        x.grace(0, 1, 600);
        x.ticks(5);
        x.count(0, 0, 3, 85, 15);
        Check.due("a tick of GRACE", x.best(0, 5, 5, 5), 1001020);
    }

    private static void leastA() {
        Check.sentence("Terms 4", "of equal ones the least a");
        ShareKeeper x = keeper(900);
        x.ticks(5);
        x.count(0, 0, 2, 89, 11);
        x.count(0, 1, 1, 900, 0);
        Check.due("a 1 at 2.0 ahead of a 2 at 1.0", x.best(0, 5, 5, 100), 1001020);
        Check.due("a 2 if it must be", x.best(0, 5, 2, 100), 2001010);
    }

    private static void leastB() {
        Check.sentence("Terms 4", "of equal ones the least a, then b");
        ShareKeeper x = keeper(900);
        x.ticks(5);
        x.count(0, 0, 2, 79, 21);
        x.count(0, 1, 1, 50, 0);
        Check.due("a 2 with b 1 at 2.0 ahead of b 2", x.best(0, 5, 3, 100), 2001020);
        x.count(0, 2, 4, 10, 0);
        Check.due("all the same", x.best(0, 5, 3, 100), 2001020);
    }

    private static void leastR() {
        Check.sentence("Terms 4", "of equal ones the least a, then b, then r");
        ShareKeeper x = keeper(900);
        x.ticks(5);
        x.count(0, 0, 2, 0, 10);
        Check.due("all ring once", x.best(0, 5, 10, 100), 1001010);
        x.count(0, 1, 4, 75, 25);
        Check.due("from 3.0 on once", x.best(0, 5, 10, 100), 1001030);
        Check.due("from 3.0 on once", x.best(0, 5, 4, 100), 1001030);
    }

    /** What one search has counted is not left over for the next. */
    private static void ofItsService() {
        Check.sentence("Promise 16", "The BEST alarm of a PROMISE");
        ShareKeeper x = keeper(900);
        x.service();
        x.source(1, 60, 1000);
        x.promise(1, 10, 900, false);
        x.promise(0, 10, 950, true);
        x.ticks(30);
        x.count(0, 0, 20, 85, 15);
        Check.due("of one", x.best(0, 100, 5, 5), 1001020);
        Check.due("of another SERVICE", x.best(1, 100, 5, 5), 1001010);
        Check.due("of another share", x.best(2, 100, 5, 5), 1001030);
        x.count(1, 0, 20, 65, 35);
        Check.due("of another SERVICE", x.best(1, 100, 5, 5), 1001040);
        Check.due("of the one", x.best(0, 100, 5, 5), 1001020);
        Check.due("with too little to pass", x.best(0, 100, 5, 4), Check.NONE);
        Check.due("an ALARM is not made", x.desk(6), 0);
    }

    private static void edgesOfShare() {
        Check.sentence("Terms 4", "r * (1000 - SHARE) * asks (SHARE 0, 1000)");
        ShareKeeper x = keeper(1000);
        x.count(0, 0, 0, 999, 1);
        Check.due("any bad one rings", x.best(0, 5, 1, 1), 1001010);
        Check.due("but it must come", x.best(0, 5, 0, 1), Check.NONE);
        ShareKeeper y = keeper(0);
        Check.due("all bad is 1.0, not above 1.0", y.best(0, 5, 10, 100000), Check.NONE);
        ShareKeeper z = keeper(1);
        Check.due("all bad is above 1.0", z.best(0, 5, 10, 100000), 1001010);
    }

    private static void noSuchPromise() {
        Check.sentence("Promise 16", "NONE: no such PROMISE");
        ShareKeeper none = new ShareKeeper();
        none.service();
        Check.due("without PROMISES", none.best(0, 5, 5, 5), Check.NONE);
        ShareKeeper x = keeper(900);
        Check.none("best(p, 5, 5, 5)", p -> x.best(p, 5, 5, 5), -1, 1, 12);
    }

    private static void otherM() {
        Check.sentence("Terms 4, Promise 16", "the first m ticks (0 .. 300); NONE: other numbers");
        ShareKeeper x = keeper(900);
        Check.none("best(0, m, 5, 100)", m -> x.best(0, m, 5, 100), -1, 301);
        Check.due("m 0", x.best(0, 0, 5, 100), 1001010);
        Check.due("m 300", x.best(0, 300, 5, 100), 1001010);
    }

    private static void otherE() {
        Check.sentence("Terms 4, Promise 16", "e bad ones (0 .. 10); NONE: other numbers");
        ShareKeeper x = keeper(900);
        Check.none("best(0, 5, e, 100)", e -> x.best(0, 5, e, 100), -1, 11);
        Check.due("e 10", x.best(0, 5, 10, 100), 1001010);
    }

    private static void otherP() {
        Check.sentence("Promise 16", "NONE: other numbers (p 0 .. 100000)");
        ShareKeeper x = keeper(900);
        Check.none("best(0, 5, 5, p)", p -> x.best(0, 5, 5, p), -1, 100001);
        Check.due("p 100000", x.best(0, 5, 5, 100000), 1001010);
        Check.due("p 0", x.best(0, 5, 5, 0), Check.NONE);
    }
}

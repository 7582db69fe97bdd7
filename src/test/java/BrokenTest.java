/** Promise 10: the first tick whose span is not whole. */
public final class BrokenTest {
    public static void main(String[] args) {
        firstFromOneOn();
        notWhole();
        asCountsHaveCome();
        aboveNow();
        ticksOfFixedSpans();
        graceIsLeftOut();
        spansAtTicksOfGrace();
        firstAndLastTick();
        noneUpTo600();
        noSuchPromise();
        noSuchTick();
        Check.finish();
    }

    private static ShareKeeper keeper(int late, int most) {
        ShareKeeper x = new ShareKeeper();
        x.service();
        x.source(0, late, most);
        return x;
    }

    private static void firstFromOneOn() {
        Check.sentence("Promise 10", "The first tick from one on");
        ShareKeeper x = keeper(60, 1000);
        x.promise(0, 3, 900, false);
        x.ticks(50);
        x.count(0, 0, 20, 8, 2);
        x.count(0, 1, 40, 8, 2);
        Check.due("from 0", x.broken(0, 0), 20);
        Check.due("from 19", x.broken(0, 19), 20);
        Check.due("from 20", x.broken(0, 20), 20);
        Check.due("from 21", x.broken(0, 21), 21);
        Check.due("from 22", x.broken(0, 22), 22);
        Check.due("from 23", x.broken(0, 23), 40);
        Check.due("from 42", x.broken(0, 42), 42);
        Check.due("from 43", x.broken(0, 43), Check.NONE);
    }

    private static void notWhole() {
        Check.sentence("Promise 10", "whose span is not whole");
        ShareKeeper x = keeper(60, 1000);
        x.promise(0, 3, 900, false);
        x.ticks(50);
        x.count(0, 0, 20, 89, 10);
        Check.due("10 bad of 99", x.broken(0, 0), 20);
        x.count(0, 1, 21, 1, 0);
        Check.due("at 20 all the same", x.broken(0, 0), 20);
        Check.due("10 bad of 100 from 21 on", x.broken(0, 21), Check.NONE);
        x.count(0, 2, 20, 1, 0);
        Check.due("10 bad of 100", x.broken(0, 0), Check.NONE);
        x.count(0, 3, 22, 0, 1);
        Check.due("11 bad of 102 at 22, 1 of 1 at 23", x.broken(0, 0), 22);
        ShareKeeper y = keeper(60, 1000);
        y.promise(0, 3, 900, false);
        y.ticks(50);
        y.count(0, 0, 20, 99, 1);
        Check.due("1 bad of 100", y.broken(0, 0), Check.NONE);
        y.count(0, 1, 30, 100, 0);
        Check.due("0 bad of 100", y.broken(0, 0), Check.NONE);
        y.count(0, 2, 40, 0, 1);
        Check.due("1 bad of 1", y.broken(0, 0), 40);
    }

    private static void asCountsHaveCome() {
        Check.sentence("Promise 10", "not whole as counts have come");
        ShareKeeper x = keeper(60, 1000);
        x.promise(0, 3, 900, false);
        Check.due("all may still be bad", x.broken(0, 0), Check.NONE);
        Check.due("LEAST", x.span(0, 0, 1), -900);
        x.count(0, 0, 0, 0, 1);
        Check.due("MOST", x.span(0, 0, 2), 99);
        Check.due("all else may still be good", x.broken(0, 0), 0);
        x.count(0, 1, 0, 9, 0);
        Check.due("and some is", x.broken(0, 0), Check.NONE);
    }

    private static void aboveNow() {
        Check.sentence("Promise 10", "none up to 600");
        ShareKeeper x = keeper(60, 1000);
        x.promise(0, 3, 900, false);
        x.ticks(50);
        x.count(0, 0, 49, 9, 0);
        x.count(0, 1, 50, 0, 1);
        Check.due("whole at NOW", x.span(0, 50, 3), 1);
        Check.due("at 52 the good ones are out", x.broken(0, 0), 52);
        Check.due("and at 53 the bad one", x.broken(0, 53), Check.NONE);
    }

    private static void ticksOfFixedSpans() {
        Check.sentence("Promise 10", "The first tick .. whose span is not whole");
        ShareKeeper x = keeper(0, 1000);
        x.promise(0, 10, 900, true);
        x.ticks(25);
        x.count(0, 0, 25, 0, 1);
        Check.due("from 0", x.broken(0, 0), 20);
        Check.due("from 19", x.broken(0, 19), 20);
        Check.due("from 24", x.broken(0, 24), 24);
        Check.due("from 29", x.broken(0, 29), 29);
        Check.due("from 30", x.broken(0, 30), Check.NONE);
        x.ticks(575);
        x.count(0, 1, 600, 0, 1);
        Check.due("the span that is cut at 600", x.broken(0, 30), 600);
        ShareKeeper y = keeper(0, 1000);
        y.promise(0, 7, 900, true);
        y.ticks(600);
        y.count(0, 0, 600, 0, 1);
        Check.due("595 to 600", y.broken(0, 0), 595);
        Check.due("from 599", y.broken(0, 599), 599);
    }

    private static void graceIsLeftOut() {
        Check.sentence("Terms 2, Promise 10", "those of GRACE are left out");
        ShareKeeper x = keeper(60, 1000);
        x.promise(0, 4, 900, false);
        x.promise(0, 4, 900, true);
        x.promise(0, 4, 900, false);
        x.grace(0, 10, 11);
        x.grace(1, 10, 11);
        x.ticks(20);
        x.count(0, 0, 10, 0, 5);
        x.count(0, 1, 11, 0, 5);
        Check.due("rolling", x.broken(0, 0), Check.NONE);
        Check.due("fixed", x.broken(1, 0), Check.NONE);
        Check.due("without GRACE", x.broken(2, 0), 10);
        x.count(0, 2, 9, 0, 1);
        Check.due("the tick ahead", x.broken(0, 0), 9);
        Check.due("until 12", x.broken(0, 12), 12);
        Check.due("and no more", x.broken(0, 13), Check.NONE);
        Check.due("fixed", x.broken(1, 0), 8);
    }

    /** A tick of GRACE is left out of spans, but has a span of its own. */
    private static void spansAtTicksOfGrace() {
        Check.sentence("Terms 2, Promise 10", "The first tick .. whose span is not whole (ticks of GRACE)");
        ShareKeeper x = keeper(60, 1000);
        x.promise(0, 3, 900, false);
        x.promise(0, 10, 900, true);
        x.grace(0, 6, 7);
        x.grace(1, 10, 12);
        x.ticks(5);
        x.count(0, 0, 5, 0, 1);
        Check.due("rolling, from the first of GRACE", x.broken(0, 6), 6);
        Check.due("rolling, from the last of GRACE", x.broken(0, 7), 7);
        Check.due("rolling, behind it", x.broken(0, 8), Check.NONE);
        x.ticks(8);
        x.count(0, 1, 13, 0, 1);
        Check.due("fixed, from the first of GRACE", x.broken(1, 10), 10);
        Check.due("fixed, from the last of GRACE", x.broken(1, 12), 12);
        Check.due("fixed, behind it", x.broken(1, 20), Check.NONE);
    }

    private static void firstAndLastTick() {
        Check.sentence("Promise 10", "from one on (0 .. 600)");
        ShareKeeper x = keeper(0, 10);
        x.promise(0, 1, 1000, false);
        x.count(0, 0, 0, 9, 1);
        Check.due("tick 0", x.broken(0, 0), 0);
        Check.due("from 1", x.broken(0, 1), Check.NONE);
        x.ticks(600);
        x.count(0, 1, 600, 9, 1);
        Check.due("tick 600", x.broken(0, 1), 600);
        Check.due("from 599", x.broken(0, 599), 600);
        Check.due("from 600", x.broken(0, 600), 600);
    }

    private static void noneUpTo600() {
        Check.sentence("Promise 10", "NONE: none up to 600");
        ShareKeeper x = keeper(0, 10);
        x.promise(0, 200, 500, false);
        x.promise(0, 200, 500, true);
        Check.due("nothing has come", x.broken(0, 0), Check.NONE);
        Check.due("nothing has come", x.broken(1, 600), Check.NONE);
        x.ticks(600);
        x.count(0, 0, 600, 5, 5);
        Check.due("all whole", x.broken(0, 0), Check.NONE);
        Check.due("all whole", x.broken(1, 0), Check.NONE);
        Check.due("600 is whole", x.broken(0, 600), Check.NONE);
    }

    private static void noSuchPromise() {
        Check.sentence("Promise 10", "NONE: no such PROMISE");
        ShareKeeper none = new ShareKeeper();
        none.service();
        Check.due("without PROMISES", none.broken(0, 0), Check.NONE);
        ShareKeeper x = keeper(0, 10);
        x.promise(0, 1, 1000, false);
        x.count(0, 0, 0, 0, 1);
        Check.none("broken(p, 0)", p -> x.broken(p, 0), -1, 1, 12);
        Check.due("the one that is there", x.broken(0, 0), 0);
    }

    private static void noSuchTick() {
        Check.sentence("Promise 10", "NONE: no such tick");
        ShareKeeper x = keeper(0, 10);
        x.promise(0, 1, 1000, false);
        x.promise(0, 200, 1000, true);
        x.count(0, 0, 0, 0, 1);
        x.ticks(600);
        x.count(0, 1, 600, 0, 1);
        Check.none("broken(0, from)", from -> x.broken(0, from), -1, 601);
        Check.none("broken(1, from)", from -> x.broken(1, from), -1, 601);
        Check.due("from 0", x.broken(0, 0), 0);
        Check.due("from 600", x.broken(0, 600), 600);
    }
}

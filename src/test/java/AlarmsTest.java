/** Promises 13 to 16: alarms, when they ring, the soonest ring in a steady history, the best alarm. */
public final class AlarmsTest {
    public static void main(String[] args) {
        alarms();
        rings();
        ringsJustAbove();
        ringsInGrace();
        soonest();
        soonestRefusals();
        best();
        bestOfEqual();
        bestByCounts();
        bestOfLongSpans();
        bestWithoutSlack();
        bestAnew();
        bestRefusals();
        Check.finish();
    }

    private static ShareKeeper keeper(int share) {
        ShareKeeper x = new ShareKeeper();
        x.service();
        x.source(0, 60, 1000);
        x.promise(0, 10, share, false);
        return x;
    }

    private static void alarms() {
        ShareKeeper x = keeper(900);
        Check.due("no promise", x.alarm(1, 1, 1, 1), Check.NONE);
        Check.due("a 0", x.alarm(0, 0, 0, 1), Check.NONE);
        Check.due("a 201", x.alarm(0, 201, 1, 1), Check.NONE);
        Check.due("b 0", x.alarm(0, 5, 0, 1), Check.NONE);
        Check.due("b above a", x.alarm(0, 5, 6, 1), Check.NONE);
        Check.due("r 0", x.alarm(0, 5, 5, 0), Check.NONE);
        Check.due("r 1001", x.alarm(0, 5, 5, 1001), Check.NONE);
        for (int wild : Check.WILD) {
            Check.due("promise " + wild, x.alarm(wild, 5, 5, 1), Check.NONE);
            Check.due("a " + wild, x.alarm(0, wild, 5, 1), Check.NONE);
            Check.due("b " + wild, x.alarm(0, 5, wild, 1), Check.NONE);
            Check.due("r " + wild, x.alarm(0, 5, 5, wild), Check.NONE);
        }
        Check.due("desk(6)", x.desk(6), 0);
        Check.due("least", x.alarm(0, 1, 1, 1), 0);
        Check.due("greatest", x.alarm(0, 200, 200, 1000), 1);
        for (int i = 2; i < 8; i++) {
            Check.due("alarm", x.alarm(0, 5, 3, 10), i);
        }
        Check.due("beyond 8", x.alarm(0, 5, 3, 10), Check.NONE);
        Check.due("desk(6) at 8", x.desk(6), 8);
    }

    private static void rings() {
        ShareKeeper x = keeper(900);
        x.alarm(0, 5, 2, 20);
        x.ticks(40);
        x.count(0, 0, 20, 10, 0);
        x.count(0, 1, 22, 5, 10);
        Check.due("ahead", x.rings(0, 21), 0);
        Check.due("at 22", x.rings(0, 22), 1);
        Check.due("at 23", x.rings(0, 23), 1);
        Check.due("the short span is over", x.rings(0, 24), 0);
        x.count(0, 2, 26, 100, 0);
        x.count(0, 3, 27, 0, 100);
        Check.due("both", x.rings(0, 27), 1);
        x.count(0, 4, 25, 900, 0);
        Check.due("the long span alone keeps it still", x.rings(0, 27), 0);
        Check.due("until that tick is out", x.rings(0, 28), 0);
        Check.due("no such alarm", x.rings(1, 0), Check.NONE);
        Check.due("tick -1", x.rings(0, -1), Check.NONE);
        Check.due("tick 601", x.rings(0, 601), Check.NONE);
        Check.due("tick 600", x.rings(0, 600), 0);
        Check.due("tick 0", x.rings(0, 0), 0);
        for (int wild : Check.WILD) {
            Check.due("alarm " + wild, x.rings(wild, 0), Check.NONE);
            Check.due("tick " + wild, x.rings(0, wild), Check.NONE);
        }
    }

    private static void ringsJustAbove() {
        ShareKeeper x = keeper(900);
        x.promise(0, 10, 1000, false);
        x.promise(0, 10, 0, false);
        x.alarm(0, 3, 1, 20);
        x.alarm(1, 3, 1, 1000);
        x.alarm(2, 3, 1, 10);
        x.alarm(2, 3, 1, 9);
        x.count(0, 0, 0, 800, 200);
        Check.due("equal is not above", x.rings(0, 0), 0);
        Check.due("share 1000 rings with any bad one", x.rings(1, 0), 1);
        Check.due("share 0 at 1", x.rings(2, 0), 0);
        x.ticks(1);
        x.count(0, 1, 1, 799, 201);
        Check.due("one above", x.rings(0, 1), 1);
        x.ticks(9);
        x.count(0, 2, 10, 0, 1000);
        Check.due("all bad at share 0 and rate 1.0", x.rings(2, 10), 0);
        Check.due("all bad at share 0 and rate 0.9", x.rings(3, 10), 1);
        Check.due("no asks", x.rings(1, 9), 0);
    }

    private static void ringsInGrace() {
        ShareKeeper x = keeper(900);
        x.alarm(0, 3, 1, 20);
        x.grace(0, 5, 6);
        x.ticks(6);
        x.count(0, 0, 5, 5, 5);
        Check.due("grace is left out of the span", x.span(0, 5, 7), 0);
        Check.due("but rings", x.rings(0, 5), 1);
    }

    private static void soonest() {
        ShareKeeper x = keeper(900);
        x.alarm(0, 4, 2, 20);
        x.alarm(0, 1, 1, 10);
        x.alarm(0, 200, 200, 99);
        x.alarm(0, 200, 1, 1);
        Check.due("5, 5", x.soonest(0, 5, 5, 0), 6);
        Check.due("5, 5 passes", x.soonest(0, 5, 5, 1), 10);
        Check.due("5, 2 does not ring", x.soonest(0, 5, 2, 0), Check.NONE);
        Check.due("5, 2 does not ring", x.soonest(0, 5, 2, 1), Check.NONE);
        Check.due("0, 3", x.soonest(0, 0, 3, 0), 0);
        Check.due("0, 3 passes", x.soonest(0, 0, 3, 1), 3);
        Check.due("the span is short at first", x.soonest(0, 1, 5, 0), 1);
        Check.due("e 0", x.soonest(0, 0, 0, 0), Check.NONE);
        Check.due("one tick", x.soonest(1, 300, 2, 0), 300);
        Check.due("one tick at its share", x.soonest(1, 300, 1, 0), Check.NONE);
        Check.due("a full long span", x.soonest(2, 300, 10, 0), 498);
        Check.due("a full long span passes", x.soonest(2, 300, 10, 1), 1990);
        Check.due("a low rate", x.soonest(3, 300, 1, 0), 320);
        Check.due("a low rate passes", x.soonest(3, 300, 1, 1), 21);
    }

    private static void soonestRefusals() {
        ShareKeeper x = keeper(900);
        x.alarm(0, 4, 2, 20);
        Check.due("no alarm", x.soonest(1, 5, 5, 0), Check.NONE);
        Check.due("m -1", x.soonest(0, -1, 5, 0), Check.NONE);
        Check.due("m 301", x.soonest(0, 301, 5, 0), Check.NONE);
        Check.due("e -1", x.soonest(0, 5, -1, 0), Check.NONE);
        Check.due("e 11", x.soonest(0, 5, 11, 0), Check.NONE);
        Check.due("what -1", x.soonest(0, 5, 5, -1), Check.NONE);
        Check.due("what 2", x.soonest(0, 5, 5, 2), Check.NONE);
        for (int wild : Check.WILD) {
            Check.due("alarm " + wild, x.soonest(wild, 5, 5, 0), Check.NONE);
            Check.due("m " + wild, x.soonest(0, wild, 5, 0), Check.NONE);
            Check.due("e " + wild, x.soonest(0, 5, wild, 0), Check.NONE);
            Check.due("what " + wild, x.soonest(0, 5, 5, wild), Check.NONE);
        }
    }

    private static void best() {
        ShareKeeper x = keeper(900);
        Check.due("nothing has come", x.best(0, 5, 5, 5), 1001010);
        Check.due("too little may pass", x.best(0, 5, 5, 4), Check.NONE);
        Check.due("e 0 never rings", x.best(0, 5, 0, 100000), Check.NONE);
        Check.due("e 1 is the share itself", x.best(0, 5, 1, 100000), Check.NONE);
        Check.due("m 300", x.best(0, 300, 2, 2), 1001010);
    }

    private static void bestOfEqual() {
        ShareKeeper x = keeper(900);
        x.ticks(20);
        // Ticks of share 0.15: only rates from 20 on keep still at a = 1.
        x.count(0, 0, 10, 85, 15);
        Check.due("a higher rate keeps still", x.best(0, 5, 5, 5), 1001020);
        x.count(0, 1, 15, 51, 49);
        Check.due("just below 50", x.best(0, 5, 6, 6), 1001050);
        Check.due("50 is not reached by e 5 at once", x.best(0, 5, 5, 5), 1001020);
        // With all of NOW quiet around it a longer span is not above the rate where the bad ones are.
        x.count(0, 2, 14, 100, 0);
        Check.due("a longer span keeps still", x.best(0, 5, 5, 10), 2001030);
    }

    private static void bestByCounts() {
        ShareKeeper x = keeper(900);
        x.count(0, 0, 0, 0, 10);
        Check.due("tick 0 always rings", x.best(0, 5, 5, 5), 1001010);
        x.ticks(1);
        x.count(0, 1, 1, 88, 12);
        Check.due("tick 1 may keep still", x.best(0, 5, 5, 5), 1001020);
        Check.due("for another history", x.best(0, 0, 10, 10), 1001020);
    }

    /** Good asks just a span ahead of the bad ones: only a span that reaches them keeps still. */
    private static void bestOfLongSpans() {
        ShareKeeper x = keeper(900);
        x.ticks(30);
        x.count(0, 0, 20, 0, 10);
        x.count(0, 1, 9, 90, 0);
        Check.due("the longest span", x.best(0, 100, 2, 14), 12001010);
        Check.due("it lets 14 pass", x.best(0, 100, 2, 13), 1001010);
        x.count(0, 2, 19, 90, 0);
        Check.due("a span of two", x.best(0, 100, 2, 4), 2001010);
        Check.due("it lets 4 pass", x.best(0, 100, 2, 3), 1001010);
        x.count(0, 3, 21, 0, 1);
        Check.due("one ring is fewer than two", x.best(0, 100, 2, 4), 2001010);
    }

    private static void bestWithoutSlack() {
        ShareKeeper x = keeper(1000);
        x.count(0, 0, 0, 999, 1);
        Check.due("any bad one rings", x.best(0, 5, 1, 1), 1001010);
        Check.due("but it must come", x.best(0, 5, 0, 1), Check.NONE);
        ShareKeeper y = keeper(0);
        Check.due("with share 0 no rate from 1.0 on rings", y.best(0, 5, 10, 100000), Check.NONE);
    }

    /** What one search has counted is not left over for the next. */
    private static void bestAnew() {
        ShareKeeper x = keeper(900);
        x.service();
        x.promise(1, 10, 900, false);
        x.ticks(30);
        x.count(0, 0, 20, 0, 10);
        x.count(0, 1, 19, 90, 0);
        Check.due("of one service", x.best(0, 100, 2, 4), 2001010);
        Check.due("of another", x.best(1, 100, 2, 4), 1001010);
        Check.due("with less to pass", x.best(0, 100, 2, 2), 1001010);
        Check.due("with too little to pass", x.best(0, 100, 2, 1), Check.NONE);
    }

    private static void bestRefusals() {
        ShareKeeper x = keeper(900);
        Check.due("no promise", x.best(1, 5, 5, 5), Check.NONE);
        Check.due("m -1", x.best(0, -1, 5, 5), Check.NONE);
        Check.due("m 301", x.best(0, 301, 5, 5), Check.NONE);
        Check.due("e -1", x.best(0, 5, -1, 5), Check.NONE);
        Check.due("e 11", x.best(0, 5, 11, 5), Check.NONE);
        Check.due("p -1", x.best(0, 5, 5, -1), Check.NONE);
        Check.due("p 100001", x.best(0, 5, 5, 100001), Check.NONE);
        Check.due("p 100000", x.best(0, 5, 5, 100000), 1001010);
        for (int wild : Check.WILD) {
            Check.due("promise " + wild, x.best(wild, 5, 5, 5), Check.NONE);
            Check.due("m " + wild, x.best(0, wild, 5, 5), Check.NONE);
            Check.due("e " + wild, x.best(0, 5, wild, 5), Check.NONE);
            Check.due("p " + wild, x.best(0, 5, 5, wild), Check.NONE);
        }
    }
}

/** Promises 13 to 15: alarms, when they ring, the soonest ring in a steady history; Terms 4 of these. */
public final class AlarmsTest {
    public static void main(String[] args) {
        alarms();
        alarmOfNoPromise();
        longSpans();
        shortSpans();
        rates();
        alarmsFull();
        ringsIfAbove();
        ringsInBothSpans();
        ringsInTheLastTicks();
        ringsFromZeroOn();
        ringsInGrace();
        ringsOfItsService();
        ringsWithEdgesOfShare();
        ringsWithGreatNumbers();
        ringsAtGreatRates();
        ringsAboveNow();
        ringsBeforeItWasMade();
        ringsNone();
        soonest();
        soonestWithM();
        soonestWithE();
        soonestFromZeroOn();
        soonestPasses();
        soonestLate();
        soonestKnowsNoCounts();
        soonestOfNoAlarm();
        soonestOtherNumbers();
        soonestNoRing();
        Check.finish();
    }

    private static ShareKeeper keeper(int share) {
        ShareKeeper x = new ShareKeeper();
        x.service();
        x.source(0, 60, 1000);
        x.promise(0, 10, share, false);
        return x;
    }

    private static void alarms() {
        Check.sentence("Promise 13", "An ALARM more: its number");
        ShareKeeper x = keeper(900);
        x.promise(0, 5, 500, true);
        Check.due("not yet", x.rings(0, 0), Check.NONE);
        Check.due("the first", x.alarm(0, 4, 2, 20), 0);
        Check.due("the second", x.alarm(1, 4, 2, 20), 1);
        Check.due("the same once more", x.alarm(0, 4, 2, 20), 2);
        Check.due("desk(6)", x.desk(6), 3);
        Check.due("it is there", x.rings(2, 0), 0);
        Check.due("no more", x.rings(3, 0), Check.NONE);
    }

    private static void alarmOfNoPromise() {
        Check.sentence("Promise 13", "NONE: no such PROMISE");
        ShareKeeper none = new ShareKeeper();
        none.service();
        Check.due("without PROMISES", none.alarm(0, 1, 1, 1), Check.NONE);
        ShareKeeper x = keeper(900);
        Check.none("alarm(p, 1, 1, 1)", p -> x.alarm(p, 1, 1, 1), -1, 1, 12);
        Check.due("none came", x.desk(6), 0);
    }

    private static void longSpans() {
        Check.sentence("Terms 4, Promise 13", "a (1 .. 200); other numbers");
        ShareKeeper x = keeper(900);
        Check.none("alarm(0, a, 1, 1)", a -> x.alarm(0, a, 1, 1), -1, 0, 201);
        Check.none("alarm(0, a, a, 1)", a -> x.alarm(0, a, a, 1), -1, 0, 201);
        Check.due("none came", x.desk(6), 0);
        Check.due("a 1", x.alarm(0, 1, 1, 1), 0);
        Check.due("a 200", x.alarm(0, 200, 1, 1), 1);
    }

    private static void shortSpans() {
        Check.sentence("Terms 4, Promise 13", "b (1 .. a); other numbers");
        ShareKeeper x = keeper(900);
        Check.none("alarm(0, 5, b, 1)", b -> x.alarm(0, 5, b, 1), -1, 0, 6, 200);
        Check.due("b 2 with a 1", x.alarm(0, 1, 2, 1), Check.NONE);
        Check.due("b 201 with a 200", x.alarm(0, 200, 201, 1), Check.NONE);
        Check.due("none came", x.desk(6), 0);
        Check.due("b 1", x.alarm(0, 5, 1, 1), 0);
        Check.due("b 5 with a 5", x.alarm(0, 5, 5, 1), 1);
        Check.due("b 200 with a 200", x.alarm(0, 200, 200, 1), 2);
        Check.due("b 1 with a 1", x.alarm(0, 1, 1, 1), 3);
    }

    private static void rates() {
        Check.sentence("Terms 4, Promise 13", "a rate r (1 .. 1000 tenths); other numbers");
        ShareKeeper x = keeper(900);
        Check.none("alarm(0, 5, 3, r)", r -> x.alarm(0, 5, 3, r), -1, 0, 1001);
        Check.due("none came", x.desk(6), 0);
        Check.due("r 1", x.alarm(0, 5, 3, 1), 0);
        Check.due("r 1000", x.alarm(0, 5, 3, 1000), 1);
    }

    private static void alarmsFull() {
        Check.sentence("Terms 4, Promise 13", "ALARMS, 8 at most; NONE: 8 are there");
        ShareKeeper x = keeper(900);
        x.promise(0, 5, 500, true);
        for (int i = 0; i < 7; i++) {
            Check.due("alarm", x.alarm(i % 2, 5, 3, 10), i);
        }
        Check.due("the 8th", x.alarm(0, 5, 3, 10), 7);
        Check.due("the 9th", x.alarm(0, 5, 3, 10), Check.NONE);
        Check.due("nor of the other PROMISE", x.alarm(1, 5, 3, 10), Check.NONE);
        Check.due("8 are left", x.desk(6), 8);
        Check.due("the last", x.rings(7, 0), 0);
        Check.due("no 9th", x.rings(8, 0), Check.NONE);
    }

    private static void ringsIfAbove() {
        Check.sentence("Terms 4", "10000 * bad is above r * (1000 - SHARE) * asks");
        ShareKeeper x = keeper(900);
        x.alarm(0, 1, 1, 20);
        x.alarm(0, 1, 1, 1);
        x.alarm(0, 1, 1, 100);
        x.count(0, 0, 0, 800, 200);
        Check.due("200 bad of 1000 at 2.0", x.rings(0, 0), 0);
        x.ticks(1);
        x.count(0, 1, 1, 799, 200);
        Check.due("200 bad of 999 at 2.0", x.rings(0, 1), 1);
        x.count(0, 2, 1, 1, 0);
        Check.due("200 bad of 1000 at 2.0", x.rings(0, 1), 0);
        x.ticks(1);
        x.count(0, 3, 2, 99, 1);
        Check.due("1 bad of 100 at 0.1", x.rings(1, 2), 0);
        Check.due("no bad of none at 0.1", x.rings(1, 3), 0);
        x.ticks(1);
        x.count(0, 4, 3, 98, 1);
        Check.due("1 bad of 99 at 0.1", x.rings(1, 3), 1);
        Check.due("1 bad of 99 at 10.0", x.rings(2, 3), 0);
        x.ticks(1);
        x.count(0, 5, 4, 0, 9);
        Check.due("9 bad of 9 at 10.0", x.rings(2, 4), 0);
        Check.due("9 bad of 9 at 2.0", x.rings(0, 4), 1);
    }

    private static void ringsInBothSpans() {
        Check.sentence("Terms 4", "it rings at a tick if in both of the SERVICE's spans");
        ShareKeeper x = keeper(900);
        x.alarm(0, 3, 1, 20);
        x.ticks(40);
        x.count(0, 0, 10, 0, 10);
        x.count(0, 1, 11, 10, 0);
        Check.due("both", x.rings(0, 10), 1);
        Check.due("the long one alone", x.rings(0, 11), 0);
        Check.due("the long one alone", x.rings(0, 12), 0);
        x.count(0, 2, 20, 100, 0);
        x.count(0, 3, 22, 0, 10);
        Check.due("the short one alone", x.rings(0, 22), 0);
        x.count(0, 4, 22, 0, 20);
        Check.due("both", x.rings(0, 22), 1);
        Check.due("neither", x.rings(0, 20), 0);
    }

    private static void ringsInTheLastTicks() {
        Check.sentence("Terms 4", "spans of the last a, b ticks");
        ShareKeeper x = keeper(900);
        x.alarm(0, 5, 2, 20);
        x.alarm(0, 200, 200, 20);
        x.alarm(0, 1, 1, 20);
        x.ticks(40);
        x.count(0, 0, 20, 0, 1);
        Check.due("ahead of it", x.rings(0, 19), 0);
        Check.due("at it", x.rings(0, 20), 1);
        Check.due("the last of b", x.rings(0, 21), 1);
        Check.due("behind b", x.rings(0, 22), 0);
        Check.due("at it with a 200", x.rings(1, 20), 1);
        Check.due("the last of a 200", x.rings(1, 219), 1);
        Check.due("behind a 200", x.rings(1, 220), 0);
        Check.due("at it with a 1", x.rings(2, 20), 1);
        Check.due("behind a 1", x.rings(2, 21), 0);
        x.count(0, 1, 30, 8, 0);
        x.count(0, 2, 34, 0, 2);
        Check.due("the good ones are the first of a", x.rings(0, 34), 0);
        Check.due("the good ones are out", x.rings(0, 35), 1);
    }

    private static void ringsFromZeroOn() {
        Check.sentence("Terms 4", "(from 0 on; ..)");
        ShareKeeper x = keeper(900);
        x.alarm(0, 200, 200, 99);
        x.alarm(0, 200, 1, 1);
        x.count(0, 0, 0, 0, 1);
        Check.due("at tick 0", x.rings(0, 0), 1);
        Check.due("at tick 0", x.rings(1, 0), 1);
        Check.due("at tick 1", x.rings(0, 1), 1);
        Check.due("at tick 199", x.rings(0, 199), 1);
        Check.due("at tick 200", x.rings(0, 200), 0);
    }

    private static void ringsInGrace() {
        Check.sentence("Terms 4", "(.. GRACE counts, too)");
        ShareKeeper x = keeper(900);
        x.alarm(0, 3, 1, 20);
        x.grace(0, 5, 7);
        x.ticks(7);
        x.count(0, 0, 5, 5, 5);
        Check.due("left out of the span", x.span(0, 5, 7), 0);
        Check.due("but it rings", x.rings(0, 5), 1);
        x.count(0, 1, 6, 100, 0);
        x.count(0, 2, 7, 5, 5);
        Check.due("good ones of GRACE keep it still", x.rings(0, 7), 0);
    }

    private static void ringsOfItsService() {
        Check.sentence("Terms 4", "ALARMS .. of a PROMISE: .. the SERVICE's spans");
        ShareKeeper x = keeper(900);
        x.service();
        x.source(1, 60, 1000);
        x.promise(1, 10, 500, false);
        x.promise(0, 1, 500, true);
        x.alarm(0, 3, 1, 20);
        x.alarm(1, 3, 1, 20);
        x.alarm(2, 3, 1, 19);
        x.source(0, 60, 1000);
        x.count(1, 0, 0, 0, 10);
        Check.due("of another SERVICE", x.rings(0, 0), 0);
        Check.due("another share: not above", x.rings(1, 0), 0);
        x.count(0, 0, 0, 3, 0);
        x.count(2, 0, 0, 0, 1);
        Check.due("of both its SOURCES", x.rings(0, 0), 1);
        Check.due("1 bad of 4 at 0.95", x.rings(2, 0), 0);
        x.count(2, 1, 0, 0, 70);
        Check.due("71 bad of 74 at 0.95", x.rings(2, 0), 1);
    }

    private static void ringsWithEdgesOfShare() {
        Check.sentence("Terms 4", "r * (1000 - SHARE) * asks (SHARE 0, 1000)");
        ShareKeeper x = keeper(1000);
        x.promise(0, 10, 0, false);
        x.alarm(0, 1, 1, 1000);
        x.alarm(1, 1, 1, 10);
        x.alarm(1, 1, 1, 9);
        Check.due("SHARE 1000, nothing came", x.rings(0, 0), 0);
        x.count(0, 0, 0, 100, 0);
        Check.due("SHARE 1000, no bad one", x.rings(0, 0), 0);
        x.count(0, 1, 0, 0, 1);
        Check.due("SHARE 1000, one bad one", x.rings(0, 0), 1);
        x.ticks(1);
        x.count(0, 2, 1, 0, 1000);
        Check.due("SHARE 0, all bad at 1.0", x.rings(1, 1), 0);
        Check.due("SHARE 0, all bad at 0.9", x.rings(2, 1), 1);
    }

    private static void ringsWithGreatNumbers() {
        Check.sentence("Terms 4", "10000 * bad is above r * (1000 - SHARE) * asks");
        ShareKeeper x = new ShareKeeper();
        x.service();
        for (int i = 0; i < 16; i++) {
            x.source(0, 60, 1000);
        }
        x.promise(0, 1, 0, false);
        x.promise(0, 1, 999, false);
        x.alarm(0, 200, 200, 1000);
        x.alarm(0, 200, 200, 9);
        x.alarm(1, 200, 200, 1000);
        x.ticks(20);
        for (int i = 0; i < 320; i++) {
            x.count(i % 16, i / 16, i / 16, 0, 1000);
        }
        Check.due("all of 320000 bad at 100.0", x.rings(0, 20), 0);
        Check.due("all of 320000 bad at 0.9", x.rings(1, 20), 1);
        Check.due("all of 320000 bad, SHARE 999 at 100.0", x.rings(2, 20), 1);
    }

    private static void ringsAtGreatRates() {
        Check.sentence("Terms 4", "a rate r (1 .. 1000 tenths)");
        ShareKeeper x = keeper(999);
        x.alarm(0, 1, 1, 1000);
        x.alarm(0, 1, 1, 999);
        x.alarm(0, 1, 1, 257);
        x.alarm(0, 1, 1, 1);
        x.count(0, 0, 0, 900, 100);
        Check.due("100 bad of 1000 at 100.0", x.rings(0, 0), 0);
        Check.due("100 bad of 1000 at 99.9", x.rings(1, 0), 1);
        x.ticks(1);
        x.count(0, 1, 1, 899, 101);
        Check.due("101 bad of 1000 at 100.0", x.rings(0, 1), 1);
        x.ticks(1);
        x.count(0, 2, 2, 975, 25);
        Check.due("25 bad of 1000 at 25.7", x.rings(2, 2), 0);
        Check.due("25 bad of 1000 at 0.1", x.rings(3, 2), 1);
        x.ticks(1);
        x.count(0, 3, 3, 974, 26);
        Check.due("26 bad of 1000 at 25.7", x.rings(2, 3), 1);
    }

    private static void ringsAboveNow() {
        Check.sentence("Promise 14", "Whether an ALARM rings at a tick (0 .. 600): 1 or 0");
        ShareKeeper x = keeper(900);
        x.alarm(0, 3, 3, 20);
        x.ticks(5);
        x.count(0, 0, 5, 0, 5);
        Check.due("at NOW", x.rings(0, 5), 1);
        Check.due("above NOW", x.rings(0, 6), 1);
        Check.due("above NOW", x.rings(0, 7), 1);
        Check.due("the bad ones are out", x.rings(0, 8), 0);
        x.ticks(595);
        x.count(0, 1, 600, 0, 5);
        Check.due("at 600", x.rings(0, 600), 1);
        Check.due("at 599", x.rings(0, 599), 0);
        Check.due("at 0", x.rings(0, 0), 0);
    }

    private static void ringsBeforeItWasMade() {
        Check.sentence("Promise 14", "Whether an ALARM rings at a tick (0 .. 600)");
        ShareKeeper x = keeper(900);
        x.count(0, 0, 0, 0, 5);
        x.ticks(100);
        x.count(0, 1, 50, 0, 5);
        x.alarm(0, 1, 1, 20);
        Check.due("tick 0, at NOW 100", x.rings(0, 0), 1);
        Check.due("tick 50, at NOW 100", x.rings(0, 50), 1);
        Check.due("tick 100, at NOW 100", x.rings(0, 100), 0);
    }

    private static void ringsNone() {
        Check.sentence("Promise 14", "at a tick (0 .. 600): NONE: none such");
        ShareKeeper none = keeper(900);
        Check.due("without ALARMS", none.rings(0, 0), Check.NONE);
        ShareKeeper x = keeper(900);
        x.alarm(0, 3, 3, 20);
        x.alarm(0, 3, 3, 20);
        x.count(0, 0, 0, 0, 5);
        Check.none("rings(alarm, 0)", alarm -> x.rings(alarm, 0), -1, 2, 8);
        Check.none("rings(0, tick)", tick -> x.rings(0, tick), -1, 601);
        Check.due("tick 0", x.rings(1, 0), 1);
        Check.due("tick 600", x.rings(1, 600), 0);
    }

    private static void soonest() {
        Check.sentence("Promise 15", "what 0: the tick of the soonest ring, 1: what it lets pass");
        ShareKeeper x = keeper(900);
        x.alarm(0, 4, 2, 20);
        Check.due("10 bad of 40 is above 8 at 6", x.soonest(0, 5, 5, 0), 6);
        Check.due("it lets pass", x.soonest(0, 5, 5, 1), 10);
        Check.due("9 bad of 40 is above 8 at 7", x.soonest(0, 5, 3, 0), 7);
        Check.due("it lets pass", x.soonest(0, 5, 3, 1), 9);
        Check.due("8 bad of 40 is not", x.soonest(0, 5, 2, 0), Check.NONE);
        Check.due("10 bad of 40 is above 8 at 5", x.soonest(0, 5, 10, 0), 5);
        Check.due("it lets pass", x.soonest(0, 5, 10, 1), 10);
    }

    private static void soonestWithM() {
        Check.sentence("Terms 4", "the first m ticks (0 .. 300) all good");
        ShareKeeper x = keeper(900);
        x.alarm(0, 1, 1, 10);
        for (int m : new int[] {0, 1, 2, 299, 300}) {
            Check.due("m " + m, x.soonest(0, m, 2, 0), m);
            Check.due("m " + m, x.soonest(0, m, 2, 1), 2);
        }
    }

    private static void soonestWithE() {
        Check.sentence("Terms 4", "then e bad ones (0 .. 10) in each");
        ShareKeeper x = keeper(900);
        x.alarm(0, 1, 1, 9);
        x.alarm(0, 1, 1, 99);
        x.alarm(0, 2, 1, 9);
        Check.due("e 0", x.soonest(0, 5, 0, 0), Check.NONE);
        Check.due("e 1", x.soonest(0, 5, 1, 0), 5);
        Check.due("e 9 at 9.9", x.soonest(1, 5, 9, 0), Check.NONE);
        Check.due("e 10 at 9.9", x.soonest(1, 5, 10, 0), 5);
        Check.due("e 10 passes", x.soonest(1, 5, 10, 1), 10);
        Check.due("in each tick: 2 bad of 20 at 6", x.soonest(2, 5, 1, 0), 6);
        Check.due("in each tick: 2 bad of 20 at 6", x.soonest(2, 5, 1, 1), 2);
    }

    private static void soonestFromZeroOn() {
        Check.sentence("Terms 4", "10 asks a tick from 0 on");
        ShareKeeper x = keeper(900);
        x.alarm(0, 4, 2, 20);
        x.alarm(0, 200, 200, 99);
        Check.due("3 bad of 10 at 0", x.soonest(0, 0, 3, 0), 0);
        Check.due("it lets pass", x.soonest(0, 0, 3, 1), 3);
        Check.due("5 bad of 20 at 1", x.soonest(0, 1, 5, 0), 1);
        Check.due("10 bad of 10 at 0", x.soonest(1, 0, 10, 0), 0);
        Check.due("1000 bad of 1010 at 100", x.soonest(1, 1, 10, 0), 100);
    }

    private static void soonestPasses() {
        Check.sentence("Terms 4", "the bad ones up to and with that tick are what it lets pass");
        ShareKeeper x = keeper(900);
        x.alarm(0, 10, 1, 20);
        Check.due("21 bad of 100 at 26", x.soonest(0, 20, 3, 0), 26);
        Check.due("7 ticks of 3", x.soonest(0, 20, 3, 1), 21);
        Check.due("24 bad of 100 at 25", x.soonest(0, 20, 4, 0), 25);
        Check.due("6 ticks of 4", x.soonest(0, 20, 4, 1), 24);
    }

    private static void soonestLate() {
        Check.sentence("Promise 15", "the tick of the soonest ring, up to 599");
        ShareKeeper x = keeper(900);
        x.alarm(0, 200, 200, 99);
        x.alarm(0, 200, 1, 1);
        x.alarm(0, 200, 200, 69);
        Check.due("1990 bad of 2000 at 498", x.soonest(0, 300, 10, 0), 498);
        Check.due("it lets pass", x.soonest(0, 300, 10, 1), 1990);
        Check.due("1386 bad of 2000 at 497", x.soonest(2, 300, 7, 0), 497);
        Check.due("21 bad of 2000 at 320", x.soonest(1, 300, 1, 0), 320);
        Check.due("it lets pass", x.soonest(1, 300, 1, 1), 21);
        ShareKeeper y = keeper(990);
        y.alarm(0, 200, 200, 999);
        Check.due("2000 bad of 2000 at 499", y.soonest(0, 300, 10, 0), 499);
        Check.due("it lets pass", y.soonest(0, 300, 10, 1), 2000);
    }

    private static void soonestKnowsNoCounts() {
        Check.sentence("Terms 4", "Of a steady history");
        ShareKeeper x = keeper(900);
        x.alarm(0, 4, 2, 20);
        x.grace(0, 1, 600);
        x.ticks(3);
        x.count(0, 0, 3, 0, 1000);
        Check.due("it rings", x.rings(0, 3), 1);
        Check.due("counts are no steady history", x.soonest(0, 5, 5, 0), 6);
        Check.due("and what it lets pass", x.soonest(0, 5, 5, 1), 10);
    }

    private static void soonestOfNoAlarm() {
        Check.sentence("Promise 15", "NONE: none such");
        ShareKeeper none = keeper(900);
        Check.due("without ALARMS", none.soonest(0, 5, 5, 0), Check.NONE);
        ShareKeeper x = keeper(900);
        x.alarm(0, 4, 2, 20);
        for (int what = 0; what <= 1; what++) {
            int asked = what;
            Check.none("soonest(alarm, 5, 5, " + what + ")", alarm -> x.soonest(alarm, 5, 5, asked), -1, 1, 8);
        }
        Check.none("soonest(0, 5, 5, what)", what -> x.soonest(0, 5, 5, what), -1, 2);
    }

    private static void soonestOtherNumbers() {
        Check.sentence("Promise 15", "m ticks (0 .. 300), e bad ones (0 .. 10); NONE: other numbers");
        ShareKeeper x = keeper(900);
        x.alarm(0, 1, 1, 1);
        for (int what = 0; what <= 1; what++) {
            int asked = what;
            Check.none("soonest(0, m, 5, " + what + ")", m -> x.soonest(0, m, 5, asked), -1, 301);
            Check.none("soonest(0, 5, e, " + what + ")", e -> x.soonest(0, 5, e, asked), -1, 11);
        }
        Check.due("m 0, e 10", x.soonest(0, 0, 10, 0), 0);
        Check.due("m 300, e 10", x.soonest(0, 300, 10, 0), 300);
    }

    private static void soonestNoRing() {
        Check.sentence("Promise 15", "NONE: it doesn't ring");
        ShareKeeper x = keeper(900);
        x.promise(0, 10, 1000, false);
        x.promise(0, 10, 0, false);
        x.alarm(0, 200, 1, 10);
        x.alarm(1, 200, 200, 1000);
        x.alarm(2, 1, 1, 10);
        for (int what = 0; what <= 1; what++) {
            Check.due("e 0", x.soonest(0, 0, 0, what), Check.NONE);
            Check.due("e 1 at 1.0", x.soonest(0, 300, 1, what), Check.NONE);
            Check.due("SHARE 1000, e 0", x.soonest(1, 300, 0, what), Check.NONE);
            Check.due("SHARE 0, e 10 at 1.0", x.soonest(2, 0, 10, what), Check.NONE);
        }
        Check.due("SHARE 1000, e 1", x.soonest(1, 300, 1, 0), 300);
        Check.due("e 2 at 1.0", x.soonest(0, 0, 2, 0), 0);
    }
}

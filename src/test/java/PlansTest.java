/** Promises 20 and 21: plans, and what Terms 5 says of them. */
public final class PlansTest {
    public static void main(String[] args) {
        greatestWorth();
        notAboveTheRoom();
        roomZero();
        roomBelowZero();
        roomLessThoseOut();
        itsChanges();
        thatAreWaiting();
        firstFourteen();
        firstFourteenWaiting();
        fewestChanges();
        leastNumbers();
        firstAhead();
        greatNumbers();
        greatGuesses();
        itChangesNothing();
        noSuchPromise();
        planned();
        plannedNone();
        latestPlan();
        refusedPlan();
        Check.finish();
    }

    /** A keeper whose promises 0 and 1 both have the room 100 at NOW. */
    private static ShareKeeper keeper() {
        ShareKeeper x = new ShareKeeper();
        x.service();
        x.source(0, 0, 1000);
        x.promise(0, 1, 900, false);
        x.promise(0, 1, 900, true);
        x.count(0, 0, 0, 1000, 0);
        return x;
    }

    private static void planDue(String label, ShareKeeper x, int promise, int worth, int... numbers) {
        Check.due(label + ": plan(" + promise + ")", x.plan(promise), worth);
        for (int i = 0; i < numbers.length; i++) {
            Check.due(label + ": planned(" + i + ")", x.planned(i), numbers[i]);
        }
        Check.due(label + ": planned(" + numbers.length + ")", x.planned(numbers.length), Check.NONE);
    }

    private static void greatestWorth() {
        Check.sentence("Terms 5, Promise 20", "a choice with the greatest worth; A PLAN: its worth");
        ShareKeeper x = keeper();
        planDue("no CHANGE", x, 0, 0);
        x.change(0, 60, 6);
        planDue("one", x, 0, 6, 0);
        x.change(0, 50, 5);
        planDue("60 or 50", x, 0, 6, 0);
        x.change(0, 50, 5);
        planDue("50 and 50", x, 0, 10, 1, 2);
        x.change(0, 100, 11);
        planDue("100", x, 0, 11, 3);
        x.change(0, 40, 6);
        planDue("60 and 40", x, 0, 12, 0, 4);
    }

    private static void notAboveTheRoom() {
        Check.sentence("Terms 5", "whose guesses together are not above that room");
        ShareKeeper x = keeper();
        x.change(0, 101, 9);
        planDue("101 of 100", x, 0, 0);
        x.change(0, 100, 8);
        planDue("100 of 100", x, 0, 8, 1);
        x.change(0, 50, 5);
        x.change(0, 51, 5);
        planDue("50 and 51 of 100", x, 0, 8, 1);
        x.change(0, 50, 4);
        planDue("50 and 50 of 100", x, 0, 9, 2, 4);
    }

    private static void roomZero() {
        Check.sentence("Terms 5", "not above that room (none if it is below 0) (room 0)");
        ShareKeeper x = new ShareKeeper();
        x.service();
        x.promise(0, 1, 900, false);
        x.change(0, 1, 9);
        x.change(0, 0, 5);
        x.change(0, 0, 4);
        Check.due("room", x.span(0, 0, 1), 0);
        planDue("guesses of 0 alone", x, 0, 9, 1, 2);
    }

    private static void roomBelowZero() {
        Check.sentence("Terms 5", "(none if it is below 0)");
        ShareKeeper x = new ShareKeeper();
        x.service();
        x.source(0, 0, 10);
        x.promise(0, 1, 500, false);
        x.change(0, 0, 5);
        x.count(0, 0, 0, 5, 0);
        planDue("room 0", x, 0, 5, 0);
        x.ticks(1);
        x.count(0, 1, 1, 4, 0);
        Check.due("room", x.span(0, 1, 1), -1);
        planDue("room -1", x, 0, 0);
        x.count(0, 2, 1, 1, 0);
        planDue("room 0 again", x, 0, 5, 0);
    }

    private static void roomLessThoseOut() {
        Check.sentence("Terms 5", "that room: LEAST .. less the guesses of its CHANGES that are OUT");
        ShareKeeper x = keeper();
        x.change(0, 60, 1);
        x.change(0, 41, 9);
        x.change(0, 40, 5);
        x.change(1, 100, 7);
        x.let(0);
        planDue("40", x, 0, 5, 2);
        planDue("100 of the other PROMISE", x, 1, 7, 3);
        x.let(3);
        planDue("40 when the other has none", x, 0, 5, 2);
        x.settle(0, 100);
        planDue("100 when it is SETTLED", x, 0, 14, 1, 2);
        x.let(1);
        x.ticks(1);
        planDue("far below 0", x, 0, 0);
    }

    private static void itsChanges() {
        Check.sentence("Terms 5", "A PLAN of a PROMISE: of its .. CHANGES");
        ShareKeeper x = keeper();
        x.change(1, 10, 100);
        x.change(0, 10, 1);
        x.change(1, 10, 100);
        planDue("of 0", x, 0, 1, 1);
        planDue("of 1", x, 1, 200, 0, 2);
    }

    private static void thatAreWaiting() {
        Check.sentence("Terms 5", "CHANGES that are WAITING");
        ShareKeeper x = keeper();
        x.change(0, 10, 1);
        x.change(0, 10, 2);
        x.change(0, 10, 4);
        planDue("all", x, 0, 7, 0, 1, 2);
        x.let(1);
        planDue("without one that is OUT", x, 0, 5, 0, 2);
        x.settle(1, 0);
        planDue("without one that is SETTLED", x, 0, 5, 0, 2);
        x.let(0);
        x.let(2);
        planDue("none", x, 0, 0);
    }

    private static void firstFourteen() {
        Check.sentence("Terms 5", "of its first 14 CHANGES (14, 15)");
        ShareKeeper x = keeper();
        x.change(1, 1, 1);
        for (int i = 1; i <= 13; i++) {
            x.change(0, 1, 1);
        }
        x.change(0, 1, 500);
        planDue("the 14th", x, 0, 513, 1, 2, 3, 4, 5, 6, 7, 8, 9, 10, 11, 12, 13, 14);
        x.change(0, 1, 1000);
        planDue("the 15th is not looked at", x, 0, 513, 1, 2, 3, 4, 5, 6, 7, 8, 9, 10, 11, 12, 13, 14);
        ShareKeeper y = keeper();
        for (int i = 0; i < 14; i++) {
            y.change(0, 101, 1);
        }
        y.change(0, 1, 1000);
        planDue("nor if no other has room", y, 0, 0);
    }

    private static void firstFourteenWaiting() {
        Check.sentence("Terms 5", "of its first 14 CHANGES that are WAITING");
        ShareKeeper x = keeper();
        for (int i = 0; i < 15; i++) {
            x.change(0, 1, 1);
        }
        x.change(0, 1, 1000);
        planDue("16 wait", x, 0, 14, 0, 1, 2, 3, 4, 5, 6, 7, 8, 9, 10, 11, 12, 13);
        x.let(3);
        planDue("15 wait", x, 0, 14, 0, 1, 2, 4, 5, 6, 7, 8, 9, 10, 11, 12, 13, 14);
        x.let(14);
        planDue("14 wait", x, 0, 1013, 0, 1, 2, 4, 5, 6, 7, 8, 9, 10, 11, 12, 13, 15);
    }

    private static void fewestChanges() {
        Check.sentence("Terms 5", "of equal worth with the fewest CHANGES");
        ShareKeeper x = keeper();
        x.change(0, 50, 3);
        x.change(0, 10, 4);
        x.change(0, 90, 7);
        planDue("10 and 90", x, 0, 11, 1, 2);
        x.change(0, 100, 11);
        planDue("one alone", x, 0, 11, 3);
        ShareKeeper y = keeper();
        y.change(0, 0, 0);
        planDue("no worth, no CHANGE", y, 0, 0);
        y.change(0, 5, 5);
        y.change(0, 0, 0);
        planDue("none without worth", y, 0, 5, 1);
        ShareKeeper z = keeper();
        z.change(0, 30, 1);
        z.change(0, 30, 2);
        z.change(0, 30, 3);
        z.change(0, 50, 3);
        z.change(0, 50, 3);
        planDue("two ahead of three", z, 0, 6, 2, 3);
        ShareKeeper u = keeper();
        u.change(0, 100, 10);
        u.change(0, 50, 5);
        u.change(0, 50, 5);
        planDue("the first alone ahead of two", u, 0, 10, 0);
        u.change(0, 101, 1000);
        planDue("the first alone, beside one without room", u, 0, 10, 0);
        u.let(0);
        u.settle(0, 0);
        u.change(0, 0, 0);
        planDue("two ahead of three with one of no worth", u, 0, 10, 1, 2);
    }

    private static void leastNumbers() {
        Check.sentence("Terms 5", "then that whose numbers are least");
        ShareKeeper x = keeper();
        x.change(0, 100, 5);
        x.change(0, 100, 5);
        planDue("0 of 0 and 1", x, 0, 5, 0);
        ShareKeeper y = keeper();
        y.change(0, 70, 1);
        y.change(0, 30, 3);
        y.change(0, 70, 3);
        y.change(0, 70, 3);
        y.change(0, 30, 3);
        planDue("1 and 2 of four pairs", y, 0, 6, 1, 2);
        ShareKeeper z = keeper();
        for (int i = 0; i < 14; i++) {
            z.change(0, 50, 5);
        }
        planDue("0 and 1 of all", z, 0, 10, 0, 1);
    }

    /** 0 and 3 or 1 and 2: the first number is looked at first. */
    private static void firstAhead() {
        Check.sentence("Terms 5", "numbers are least, the first ahead");
        ShareKeeper x = keeper();
        x.change(0, 60, 5);
        x.change(0, 50, 5);
        x.change(0, 50, 5);
        x.change(0, 40, 5);
        planDue("0 and 3, not 1 and 2", x, 0, 10, 0, 3);
        ShareKeeper v = keeper();
        v.change(0, 60, 5);
        v.change(0, 50, 5);
        v.change(0, 50, 5);
        v.change(0, 50, 5);
        v.change(0, 41, 5);
        v.change(0, 40, 5);
        planDue("0 and 5, though 1 and 2 are less together", v, 0, 10, 0, 5);
        ShareKeeper y = keeper();
        y.change(0, 80, 5);
        y.change(0, 10, 5);
        y.change(0, 20, 5);
        y.change(0, 20, 5);
        y.change(0, 10, 5);
        y.change(0, 31, 0);
        planDue("1 to 4 of four small ones", y, 0, 20, 1, 2, 3, 4);
        y.let(2);
        planDue("0 is too great beside two", y, 0, 15, 1, 3, 4);
        y.let(3);
        planDue("two: 1 and 4 of 60", y, 0, 10, 1, 4);
        ShareKeeper z = keeper();
        z.change(0, 40, 5);
        z.change(0, 60, 1);
        z.change(0, 30, 5);
        z.change(0, 60, 5);
        z.change(0, 30, 5);
        planDue("0, 2, 4", z, 0, 15, 0, 2, 4);
    }

    private static void greatNumbers() {
        Check.sentence("Terms 5", "a guess (0 .. 100000) and a worth (0 .. 1000)");
        ShareKeeper x = new ShareKeeper();
        x.service();
        for (int i = 0; i < 16; i++) {
            x.source(0, 0, 1000);
        }
        x.promise(0, 200, 0, false);
        x.ticks(20);
        for (int i = 0; i < 14; i++) {
            x.change(0, i == 13 ? 100000 : 1000, 1000);
        }
        for (int i = 0; i < 16; i++) {
            x.count(i, 0, 20, 1000, 0);
        }
        Check.due("room", x.span(0, 20, 1), 16000);
        planDue("all but the last", x, 0, 13000, 0, 1, 2, 3, 4, 5, 6, 7, 8, 9, 10, 11, 12);
    }

    /** The room is 102000: all asks may be bad, and none is. */
    private static void greatGuesses() {
        Check.sentence("Terms 5", "a guess (0 .. 100000); guesses together are not above that room");
        ShareKeeper x = new ShareKeeper();
        x.service();
        x.source(0, 60, 1000);
        x.source(0, 60, 1000);
        x.promise(0, 200, 0, false);
        x.ticks(60);
        for (int t = 0; t <= 50; t++) {
            x.count(0, t, t, 1000, 0);
            x.count(1, t, t, 1000, 0);
        }
        x.change(0, 2001, 5);
        x.change(0, 100000, 5);
        planDue("one of them", x, 0, 5, 0);
        x.change(0, 2000, 4);
        planDue("100000 and 2000, or 2001 and 2000", x, 0, 9, 0, 2);
        x.change(0, 100000, 6);
        planDue("2001 beside 100000 is too much", x, 0, 10, 2, 3);
        x.change(0, 99999, 5);
        planDue("99999 and 2001, or 100000 and 2000", x, 0, 10, 0, 4);
    }

    private static void itChangesNothing() {
        Check.sentence("Promise 20", "A PLAN: its worth");
        ShareKeeper x = keeper();
        x.change(0, 60, 6);
        x.change(0, 40, 4);
        planDue("a PLAN", x, 0, 10, 0, 1);
        planDue("the same", x, 0, 10, 0, 1);
        Check.due("WAITING", x.look(0, 0), 0);
        Check.due("it may be let", x.let(0), true);
        Check.due("and the other", x.let(1), true);
    }

    private static void noSuchPromise() {
        Check.sentence("Promise 20", "NONE: no such PROMISE");
        ShareKeeper none = new ShareKeeper();
        none.service();
        Check.due("without PROMISES", none.plan(0), Check.NONE);
        ShareKeeper x = keeper();
        x.change(1, 1, 5);
        Check.none("plan(p)", p -> x.plan(p), -1, 2, 12);
        Check.due("the last PROMISE", x.plan(1), 5);
    }

    private static void planned() {
        Check.sentence("Promise 21", "The i-th CHANGE of the latest PLAN, by numbers");
        ShareKeeper x = keeper();
        x.change(0, 10, 1);
        x.change(0, 100, 1);
        x.change(0, 20, 9);
        x.change(0, 30, 5);
        Check.due("plan(0)", x.plan(0), 15);
        Check.due("planned(0)", x.planned(0), 0);
        Check.due("planned(1)", x.planned(1), 2);
        Check.due("planned(2)", x.planned(2), 3);
        Check.due("planned(0) once more", x.planned(0), 0);
    }

    private static void plannedNone() {
        Check.sentence("Promise 21", "NONE");
        ShareKeeper x = keeper();
        Check.due("ahead of all PLANS", x.planned(0), Check.NONE);
        x.change(0, 10, 1);
        x.change(0, 20, 9);
        Check.due("ahead of all PLANS", x.planned(0), Check.NONE);
        x.plan(0);
        Check.none("planned(i)", i -> x.planned(i), -1, 2, 13, 14, 15);
        Check.due("the last", x.planned(1), 1);
        ShareKeeper y = keeper();
        for (int i = 0; i < 14; i++) {
            y.change(0, 1, 1);
        }
        y.plan(0);
        Check.due("the 14th", y.planned(13), 13);
        Check.none("planned(i) of 14", i -> y.planned(i), -1, 14);
    }

    private static void latestPlan() {
        Check.sentence("Promise 21", "of the latest PLAN");
        ShareKeeper x = keeper();
        x.change(0, 1, 1);
        x.change(0, 2, 2);
        x.change(1, 3, 3);
        x.plan(0);
        x.let(0);
        x.settle(0, 1);
        x.change(0, 5, 5);
        x.ticks(1);
        Check.due("it stays", x.planned(0), 0);
        Check.due("it stays", x.planned(1), 1);
        Check.due("it stays", x.planned(2), Check.NONE);
        x.count(0, 1, 1, 1000, 0);
        planDue("another PROMISE", x, 1, 3, 2);
        x.ticks(1);
        planDue("without room", x, 1, 0);
    }

    /** Where there is no such PROMISE, no PLAN is made: the latest is the one ahead of it. */
    private static void refusedPlan() {
        Check.sentence("Promises 20, 21", "NONE: no such PROMISE; of the latest PLAN");
        ShareKeeper x = keeper();
        x.change(0, 1, 1);
        x.change(0, 2, 2);
        x.plan(0);
        Check.due("plan(2)", x.plan(2), Check.NONE);
        Check.due("plan(-1)", x.plan(-1), Check.NONE);
        Check.due("planned(0)", x.planned(0), 0);
        Check.due("planned(1)", x.planned(1), 1);
    }
}

/** Promises 17 to 19 and 22: changes, letting them out, settling them, a look at them; Terms 5 of these. */
public final class ChangesTest {
    private static final int WAITING = 0;
    private static final int OUT = 1;
    private static final int SETTLED = 2;

    public static void main(String[] args) {
        changes();
        changeOfNoPromise();
        guesses();
        worths();
        changesFull();
        waitingAtFirst();
        letIfRoom();
        letGreatGuesses();
        letWhileWaiting();
        letLessThoseOut();
        letOfItsPromise();
        letByLeast();
        letAtNow();
        letInGrace();
        letBelowZero();
        letNoneSuch();
        settle();
        settleOnlyWhenOut();
        costs();
        costBesideGuess();
        costTakesNoRoom();
        roomAfterSettling();
        settleNoneSuch();
        looks();
        lookNoneSuch();
        Check.finish();
    }

    /** A keeper whose promises 0 and 1 both have the room 100 at NOW. */
    private static ShareKeeper keeper() {
        ShareKeeper x = new ShareKeeper();
        x.service();
        x.source(0, 0, 1000);
        x.promise(0, 1, 900, false);
        x.promise(0, 1, 900, true);
        x.count(0, 0, 0, 1000, 0);
        return x;
    }

    private static void stateDue(ShareKeeper x, int change, int state) {
        Check.due("state of " + change, x.look(change, 0), state);
    }

    private static void changes() {
        Check.sentence("Promise 17", "A CHANGE more: its number");
        ShareKeeper x = keeper();
        Check.due("not yet", x.look(0, 0), Check.NONE);
        Check.due("the first", x.change(0, 5, 5), 0);
        Check.due("of the other PROMISE", x.change(1, 5, 5), 1);
        Check.due("the same once more", x.change(0, 5, 5), 2);
        Check.due("desk(7)", x.desk(7), 3);
    }

    private static void changeOfNoPromise() {
        Check.sentence("Promise 17", "NONE: no such PROMISE");
        ShareKeeper none = new ShareKeeper();
        none.service();
        Check.due("without PROMISES", none.change(0, 1, 1), Check.NONE);
        ShareKeeper x = keeper();
        Check.none("change(p, 1, 1)", p -> x.change(p, 1, 1), -1, 2, 12);
        Check.due("none came", x.desk(7), 0);
        Check.due("the last PROMISE", x.change(1, 1, 1), 0);
    }

    private static void guesses() {
        Check.sentence("Terms 5, Promise 17", "with a guess (0 .. 100000); other numbers");
        ShareKeeper x = keeper();
        Check.none("change(0, guess, 1)", guess -> x.change(0, guess, 1), -1, 100001);
        Check.due("none came", x.desk(7), 0);
        Check.due("0", x.change(0, 0, 1), 0);
        Check.due("100000", x.change(0, 100000, 1), 1);
        Check.due("it is kept", x.look(1, 2), 100000);
    }

    private static void worths() {
        Check.sentence("Terms 5, Promise 17", "a worth (0 .. 1000); other numbers");
        ShareKeeper x = keeper();
        Check.none("change(0, 1, worth)", worth -> x.change(0, 1, worth), -1, 1001);
        Check.due("none came", x.desk(7), 0);
        Check.due("0", x.change(0, 1, 0), 0);
        Check.due("1000", x.change(0, 1, 1000), 1);
        Check.due("it is kept", x.look(1, 3), 1000);
    }

    private static void changesFull() {
        Check.sentence("Terms 5, Promise 17", "CHANGES, 40 at most; NONE: 40 are there");
        ShareKeeper x = keeper();
        for (int i = 0; i < 39; i++) {
            Check.due("change", x.change(i % 2, 1, i), i);
        }
        Check.due("the 40th", x.change(0, 1, 77), 39);
        Check.due("the 41st", x.change(0, 1, 1), Check.NONE);
        Check.due("nor of the other PROMISE", x.change(1, 1, 1), Check.NONE);
        Check.due("the last is there", x.look(39, 3), 77);
        Check.due("no 41st", x.look(40, 3), Check.NONE);
        x.let(0);
        x.settle(0, 0);
        Check.due("nor when one is SETTLED", x.change(0, 1, 1), Check.NONE);
        Check.due("40 are left", x.desk(7), 40);
    }

    private static void waitingAtFirst() {
        Check.sentence("Terms 5", "WAITING at first; OUT when let; SETTLED with what it cost");
        ShareKeeper x = keeper();
        x.change(0, 5, 5);
        stateDue(x, 0, WAITING);
        x.let(0);
        stateDue(x, 0, OUT);
        x.settle(0, 7);
        stateDue(x, 0, SETTLED);
    }

    private static void letIfRoom() {
        Check.sentence("Terms 5, Promise 18", "if LEAST .. is not below the guess");
        ShareKeeper x = keeper();
        x.change(0, 101, 1);
        x.change(0, 100, 1);
        x.change(1, 99, 1);
        x.change(1, 100000, 1);
        Check.due("room", x.span(0, 0, 1), 100);
        Check.due("101 of 100", x.let(0), false);
        stateDue(x, 0, WAITING);
        Check.due("100000 of 100", x.let(3), false);
        Check.due("100 of 100", x.let(1), true);
        stateDue(x, 1, OUT);
        Check.due("99 of 100", x.let(2), true);
    }

    /** The room is 102000: all asks may be bad, and none is. */
    private static void letGreatGuesses() {
        Check.sentence("Terms 5, Promise 18", "a guess (0 .. 100000); LEAST, less the guesses that are OUT, is not below it");
        ShareKeeper x = new ShareKeeper();
        x.service();
        x.source(0, 60, 1000);
        x.source(0, 60, 1000);
        x.promise(0, 200, 0, false);
        x.ticks(60);
        for (int t = 0; t <= 50; t++) {
            x.count(0, t, t, 1000, 0);
            x.count(1, t, t, 1000, 0);
        }
        x.change(0, 100000, 1);
        x.change(0, 2001, 1);
        x.change(0, 2000, 1);
        x.change(0, 100000, 1);
        Check.due("room", x.span(0, 60, 1), 102000);
        Check.due("100000 of 102000", x.let(0), true);
        Check.due("100000 of 2000", x.let(3), false);
        x.change(0, 65536, 1);
        Check.due("65536 of 2000", x.let(4), false);
        Check.due("2001 of 2000", x.let(1), false);
        Check.due("2000 of 2000", x.let(2), true);
    }

    private static void letWhileWaiting() {
        Check.sentence("Terms 5, Promise 18", "let(): while it is WAITING; false: not so");
        ShareKeeper x = keeper();
        x.change(0, 0, 1);
        Check.due("WAITING", x.let(0), true);
        Check.due("OUT", x.let(0), false);
        stateDue(x, 0, OUT);
        x.settle(0, 3);
        Check.due("SETTLED", x.let(0), false);
        stateDue(x, 0, SETTLED);
        Check.due("its cost is left", x.look(0, 4), 3);
    }

    private static void letLessThoseOut() {
        Check.sentence("Terms 5", "less the guesses of its CHANGES that are OUT");
        ShareKeeper x = keeper();
        x.change(0, 60, 1);
        x.change(0, 41, 1);
        x.change(0, 40, 1);
        x.change(0, 1, 1);
        x.change(0, 0, 1);
        Check.due("60 of 100, 142 are WAITING", x.let(0), true);
        Check.due("41 of 40", x.let(1), false);
        Check.due("40 of 40", x.let(2), true);
        Check.due("1 of 0", x.let(3), false);
        Check.due("0 of 0", x.let(4), true);
        x.settle(2, 0);
        Check.due("41 of 40 when one is SETTLED", x.let(1), false);
        Check.due("1 of 40", x.let(3), true);
        x.settle(0, 0);
        Check.due("41 of 99", x.let(1), true);
    }

    private static void letOfItsPromise() {
        Check.sentence("Terms 5", "LEAST of the PROMISE's span .. less the guesses of its CHANGES");
        ShareKeeper x = keeper();
        x.promise(0, 1, 950, false);
        x.change(0, 100, 1);
        x.change(1, 100, 1);
        x.change(1, 1, 1);
        x.change(2, 51, 1);
        x.change(2, 50, 1);
        Check.due("100 of 100", x.let(0), true);
        Check.due("100 of 100 of another PROMISE", x.let(1), true);
        Check.due("1 of 0", x.let(2), false);
        Check.due("51 of 50", x.let(3), false);
        Check.due("50 of 50", x.let(4), true);
    }

    private static void letByLeast() {
        Check.sentence("Terms 5", "if LEAST of the PROMISE's span at NOW (what may still come)");
        ShareKeeper x = new ShareKeeper();
        x.service();
        x.source(0, 0, 100);
        x.promise(0, 1, 500, false);
        x.change(0, 10, 1);
        x.count(0, 0, 0, 59, 0);
        Check.due("LEFT", x.span(0, 0, 0), 29);
        Check.due("LEAST", x.span(0, 0, 1), 9);
        Check.due("10 of 9", x.let(0), false);
        x.count(0, 1, 0, 1, 0);
        Check.due("10 of 10", x.let(0), true);
    }

    private static void letAtNow() {
        Check.sentence("Terms 5", "the PROMISE's span at NOW");
        ShareKeeper x = new ShareKeeper();
        x.service();
        x.source(0, 0, 100);
        x.promise(0, 2, 500, false);
        x.promise(0, 2, 500, true);
        for (int i = 0; i < 4; i++) {
            x.change(i % 2, 10, 1);
        }
        x.count(0, 0, 0, 100, 0);
        Check.due("rolling: 0 alone", x.let(0), true);
        Check.due("fixed: 1 may still be bad", x.let(1), false);
        x.ticks(1);
        x.count(0, 1, 1, 100, 0);
        Check.due("fixed: 0 to 1", x.let(1), true);
        x.ticks(1);
        x.count(0, 2, 2, 0, 100);
        Check.due("rolling: 1 to 2", x.let(2), false);
        x.ticks(1);
        x.count(0, 3, 3, 100, 0);
        Check.due("fixed: 2 to 3", x.let(3), false);
        x.ticks(1);
        x.count(0, 4, 4, 100, 0);
        Check.due("rolling: 3 to 4", x.let(2), true);
    }

    private static void letInGrace() {
        Check.sentence("Terms 2, 5", "LEAST of the PROMISE's span at NOW (with GRACE as told)");
        ShareKeeper x = new ShareKeeper();
        x.service();
        x.source(0, 0, 100);
        x.promise(0, 2, 500, false);
        x.change(0, 51, 1);
        x.change(0, 50, 1);
        x.grace(0, 1, 1);
        x.count(0, 0, 0, 100, 0);
        x.ticks(1);
        Check.due("51 of 50", x.let(0), false);
        Check.due("50 of 50", x.let(1), true);
    }

    private static void letBelowZero() {
        Check.sentence("Terms 5", "is not below the guess (room below 0)");
        ShareKeeper x = new ShareKeeper();
        x.service();
        x.source(0, 0, 10);
        x.promise(0, 1, 500, false);
        x.change(0, 0, 1);
        x.count(0, 0, 0, 4, 0);
        Check.due("LEAST", x.span(0, 0, 1), -1);
        Check.due("0 of -1", x.let(0), false);
        x.count(0, 1, 0, 1, 0);
        Check.due("LEAST", x.span(0, 0, 1), 0);
        Check.due("0 of 0", x.let(0), true);
        ShareKeeper y = new ShareKeeper();
        y.service();
        y.promise(0, 200, 1000, false);
        y.change(0, 0, 1);
        y.change(0, 1, 1);
        Check.due("1 of 0, without SOURCES", y.let(1), false);
        Check.due("0 of 0, without SOURCES", y.let(0), true);
    }

    private static void letNoneSuch() {
        Check.sentence("Promise 18", "false: none such");
        ShareKeeper none = keeper();
        Check.due("without CHANGES", none.let(0), false);
        ShareKeeper x = keeper();
        x.change(0, 0, 1);
        Check.no("let(change)", change -> x.let(change), -1, 1, 40);
        stateDue(x, 0, WAITING);
    }

    private static void settle() {
        Check.sentence("Promise 19", "A CHANGE that is OUT is SETTLED: true");
        ShareKeeper x = keeper();
        x.change(0, 5, 1);
        x.change(0, 5, 1);
        x.let(0);
        x.let(1);
        Check.due("settle(1, 9)", x.settle(1, 9), true);
        stateDue(x, 1, SETTLED);
        Check.due("its cost", x.look(1, 4), 9);
        stateDue(x, 0, OUT);
        Check.due("the other's cost", x.look(0, 4), 0);
    }

    private static void settleOnlyWhenOut() {
        Check.sentence("Promise 19", "false: not so");
        ShareKeeper x = keeper();
        x.change(0, 5, 1);
        Check.due("WAITING", x.settle(0, 9), false);
        stateDue(x, 0, WAITING);
        Check.due("no cost", x.look(0, 4), 0);
        x.let(0);
        Check.due("OUT", x.settle(0, 9), true);
        Check.due("SETTLED", x.settle(0, 8), false);
        Check.due("the first cost", x.look(0, 4), 9);
    }

    private static void costs() {
        Check.sentence("Promise 19", "false: another cost (0 .. 100000)");
        ShareKeeper x = keeper();
        x.change(0, 5, 1);
        x.change(0, 5, 1);
        x.let(0);
        x.let(1);
        Check.no("settle(0, cost)", cost -> x.settle(0, cost), -1, 100001);
        stateDue(x, 0, OUT);
        Check.due("no cost", x.look(0, 4), 0);
        Check.due("cost 0", x.settle(0, 0), true);
        stateDue(x, 0, SETTLED);
        Check.due("cost 100000", x.settle(1, 100000), true);
        Check.due("it is kept", x.look(1, 4), 100000);
    }

    private static void costBesideGuess() {
        Check.sentence("Terms 5, Promise 22", "SETTLED with what it cost");
        ShareKeeper x = keeper();
        int[] costs = {0, 1, 9, 10, 11, 99999};
        for (int i = 0; i < costs.length; i++) {
            x.change(0, 10, 1);
            x.let(i);
            Check.due("settle(" + i + ", " + costs[i] + ")", x.settle(i, costs[i]), true);
            Check.due("cost " + costs[i] + " of a guess of 10", x.look(i, 4), costs[i]);
            Check.due("the guess stays", x.look(i, 2), 10);
        }
    }

    private static void costTakesNoRoom() {
        Check.sentence("Terms 5", "less the guesses of its CHANGES that are OUT (no costs)");
        ShareKeeper x = keeper();
        x.change(0, 60, 1);
        x.change(0, 100, 1);
        x.let(0);
        Check.due("100 of 40", x.let(1), false);
        x.settle(0, 100000);
        Check.due("100 of 100", x.let(1), true);
    }

    /** What came since takes room from under those that are OUT; each that is SETTLED gives its guess back. */
    private static void roomAfterSettling() {
        Check.sentence("Terms 5", "LEAST .. at NOW, less the guesses of its CHANGES that are OUT (fallen below them)");
        ShareKeeper x = new ShareKeeper();
        x.service();
        x.source(0, 0, 1000);
        x.promise(0, 2, 900, false);
        x.count(0, 0, 0, 1000, 0);
        x.change(0, 60, 1);
        x.change(0, 40, 1);
        x.change(0, 31, 1);
        x.change(0, 30, 1);
        x.let(0);
        x.let(1);
        x.ticks(1);
        x.count(0, 1, 1, 830, 170);
        Check.due("LEAST", x.span(0, 1, 1), 30);
        Check.due("30 of 30 less 100", x.let(3), false);
        Check.due("what is OUT is settled all the same", x.settle(0, 5), true);
        Check.due("30 of 30 less 40", x.let(3), false);
        Check.due("the other, too", x.settle(1, 5), true);
        Check.due("31 of 30", x.let(2), false);
        Check.due("30 of 30", x.let(3), true);
    }

    private static void settleNoneSuch() {
        Check.sentence("Promise 19", "false: not so (no such CHANGE)");
        ShareKeeper none = keeper();
        Check.due("without CHANGES", none.settle(0, 0), false);
        ShareKeeper x = keeper();
        x.change(0, 0, 1);
        x.let(0);
        Check.no("settle(change, 1)", change -> x.settle(change, 1), -1, 1, 40);
        stateDue(x, 0, OUT);
    }

    private static void looks() {
        Check.sentence("Promise 22", "what 0: its state, 1: its PROMISE, 2: guess, 3: worth, 4: cost");
        ShareKeeper x = keeper();
        x.change(0, 7, 8);
        x.change(1, 9, 10);
        int[][] want = {{WAITING, 0, 7, 8, 0}, {WAITING, 1, 9, 10, 0}};
        lookDue(x, want);
        x.let(1);
        want[1][0] = OUT;
        lookDue(x, want);
        x.settle(1, 77);
        want[1][0] = SETTLED;
        want[1][4] = 77;
        lookDue(x, want);
    }

    private static void lookDue(ShareKeeper x, int[][] want) {
        for (int change = 0; change < want.length; change++) {
            for (int what = 0; what < 5; what++) {
                Check.due("look(" + change + ", " + what + ")", x.look(change, what), want[change][what]);
            }
        }
    }

    private static void lookNoneSuch() {
        Check.sentence("Promise 22", "NONE: none such");
        ShareKeeper none = keeper();
        Check.due("without CHANGES", none.look(0, 0), Check.NONE);
        ShareKeeper x = keeper();
        x.change(1, 3, 4);
        for (int what = 0; what < 5; what++) {
            int asked = what;
            Check.none("look(change, " + what + ")", change -> x.look(change, asked), -1, 1, 40);
        }
        Check.none("look(0, what)", what -> x.look(0, what), -1, 5, 6);
    }
}

/** Promises 4 and 8: counts and why they are not taken, sums, and what Terms 1 says of both. */
public final class CountsTest {
    public static void main(String[] args) {
        countsOfAService();
        lateness();
        latenessAsTimeGoes();
        most();
        mostOfEachTickAndSource();
        noSuchSource();
        numbers();
        tickBelowZero();
        answersBelowZero();
        togetherAboveAThousand();
        wrapAround();
        again();
        againOfARefusedNumber();
        againOfAllNumbers();
        aboveNow();
        tooLate();
        tooMany();
        orderOfMalformed();
        orderOfAgain();
        orderOfTheOthers();
        refusedChangesNothing();
        Check.finish();
    }

    private static ShareKeeper keeper(int late, int most, int now) {
        ShareKeeper x = new ShareKeeper();
        x.service();
        x.source(0, late, most);
        x.ticks(now);
        return x;
    }

    private static void countsOfAService() {
        Check.sentence("Terms 1", "SOURCES, 16 at most, each of one SERVICE");
        ShareKeeper x = keeper(0, 100, 0);
        x.service();
        x.source(1, 0, 100);
        x.source(1, 0, 100);
        Check.due("of the first SERVICE", x.count(0, 0, 0, 1, 2), 0);
        Check.due("of the second", x.count(1, 0, 0, 10, 20), 0);
        Check.due("of the second", x.count(2, 0, 0, 30, 4), 0);
        Check.due("asks of the first", x.sum(0, 0, 600, 0), 3);
        Check.due("asks of the second", x.sum(1, 0, 600, 0), 64);
        Check.due("bad ones of the first", x.sum(0, 0, 600, 1), 2);
        Check.due("bad ones of the second", x.sum(1, 0, 600, 1), 24);
    }

    private static void lateness() {
        Check.sentence("Terms 1", "a count of a tick comes up to LATE ticks (0 .. 60) behind it");
        for (int late : new int[] {0, 1, 2, 59, 60}) {
            ShareKeeper x = keeper(late, 10, 200);
            Check.due(late + " late, one more", x.count(0, 0, 199 - late, 1, 0), 4);
            Check.due(late + " late, just", x.count(0, 0, 200 - late, 1, 0), 0);
            Check.due(late + " late, not at all", x.count(0, 1, 200, 1, 0), 0);
        }
        ShareKeeper x = keeper(60, 10, 60);
        Check.due("tick 0 at NOW 60", x.count(0, 0, 0, 1, 0), 0);
        ShareKeeper y = keeper(60, 10, 61);
        Check.due("tick 0 at NOW 61", y.count(0, 0, 0, 1, 0), 4);
        ShareKeeper z = keeper(0, 10, 600);
        Check.due("tick 599 at NOW 600", z.count(0, 0, 599, 1, 0), 4);
        Check.due("tick 600 at NOW 600", z.count(0, 0, 600, 1, 0), 0);
    }

    private static void latenessAsTimeGoes() {
        Check.sentence("Terms 1", "a count of a tick comes up to LATE ticks (0 .. 60) behind it");
        ShareKeeper x = keeper(3, 10, 5);
        x.source(0, 4, 10);
        Check.due("at NOW 5", x.count(0, 0, 5, 1, 0), 0);
        x.ticks(3);
        Check.due("at NOW 8", x.count(0, 1, 5, 1, 0), 0);
        x.ticks(1);
        Check.due("at NOW 9", x.count(0, 2, 5, 1, 0), 4);
        Check.due("of a later SOURCE", x.count(1, 0, 5, 1, 0), 0);
    }

    private static void most() {
        Check.sentence("Terms 1", "of one tick never more than MOST asks (1 .. 1000) come from it");
        ShareKeeper x = keeper(5, 1, 5);
        Check.due("2 of 1", x.count(0, 0, 5, 1, 1), 5);
        Check.due("1 of 1", x.count(0, 0, 5, 0, 1), 0);
        Check.due("1 more", x.count(0, 1, 5, 1, 0), 5);
        Check.due("none more", x.count(0, 1, 5, 0, 0), 0);
        Check.due("one came", x.sum(0, 0, 600, 0), 1);
        ShareKeeper y = keeper(5, 1000, 5);
        Check.due("1000 of 1000", y.count(0, 0, 5, 1000, 0), 0);
        Check.due("1 more", y.count(0, 1, 5, 0, 1), 5);
        Check.due("999 of 1000", y.count(0, 1, 4, 0, 999), 0);
        Check.due("2 more", y.count(0, 2, 4, 1, 1), 5);
        Check.due("1 more", y.count(0, 2, 4, 1, 0), 0);
        Check.due("1 more", y.count(0, 3, 4, 1, 0), 5);
    }

    private static void mostOfEachTickAndSource() {
        Check.sentence("Terms 1", "of one tick never more than MOST asks (1 .. 1000) come from it");
        ShareKeeper x = keeper(5, 10, 5);
        x.source(0, 5, 20);
        Check.due("full", x.count(0, 0, 5, 4, 6), 0);
        Check.due("the tick ahead", x.count(0, 1, 4, 10, 0), 0);
        Check.due("another SOURCE", x.count(1, 0, 5, 10, 10), 0);
        Check.due("and no more of it", x.count(1, 1, 5, 1, 0), 5);
        Check.due("bad ones are asks", x.count(0, 2, 5, 0, 1), 5);
        x.ticks(1);
        Check.due("a tick later", x.count(0, 2, 5, 1, 0), 5);
        Check.due("the tick behind", x.count(0, 2, 6, 10, 0), 0);
        ShareKeeper y = keeper(0, 10, 0);
        y.source(0, 0, 10);
        Check.due("the second SOURCE first", y.count(1, 0, 0, 10, 0), 0);
        Check.due("is not the first's", y.count(0, 0, 0, 10, 0), 0);
    }

    private static void noSuchSource() {
        Check.sentence("Terms 1, Promise 4", "1 no such SOURCE");
        ShareKeeper x = new ShareKeeper();
        x.service();
        x.service();
        Check.due("without SOURCES", x.count(0, 0, 0, 1, 1), 1);
        x.source(1, 0, 10);
        Check.answers("count(s, 0, 0, 1, 1)", s -> x.count(s, 0, 0, 1, 1), 1, -1, 1, 2, 16);
        Check.answers("count(s, 0, 0, 1, 1)", s -> x.count(s, 0, 0, 1, 1), 1, Check.WILD);
        Check.due("the one that is there", x.count(0, 0, 0, 1, 1), 0);
    }

    private static void numbers() {
        Check.sentence("Terms 1, Promise 4", "a number that is not 0 .. 199");
        ShareKeeper x = keeper(0, 10, 0);
        Check.answers("count(0, n, 0, 1, 1)", n -> x.count(0, n, 0, 1, 1), 1, -1, 200, 201);
        Check.answers("count(0, n, 0, 1, 1)", n -> x.count(0, n, 0, 1, 1), 1, Check.WILD);
        Check.due("number 0", x.count(0, 0, 0, 1, 1), 0);
        Check.due("number 199", x.count(0, 199, 0, 1, 1), 0);
        Check.due("number 198", x.count(0, 198, 0, 1, 1), 0);
    }

    private static void tickBelowZero() {
        Check.sentence("Terms 1, Promise 4", "a tick below 0");
        ShareKeeper x = keeper(60, 10, 3);
        Check.answers("count(0, 0, t, 1, 1)", t -> x.count(0, 0, t, 1, 1), 1, -1, -2, -57, -58, -1000, Integer.MIN_VALUE);
        Check.due("tick 0", x.count(0, 0, 0, 1, 1), 0);
    }

    private static void answersBelowZero() {
        Check.sentence("Terms 1, Promise 4", "good or bad below 0");
        ShareKeeper x = keeper(0, 10, 0);
        Check.due("good -1, together 4", x.count(0, 0, 0, -1, 5), 1);
        Check.due("bad -1, together 4", x.count(0, 0, 0, 5, -1), 1);
        Check.due("both -1", x.count(0, 0, 0, -1, -1), 1);
        Check.due("good -1, bad 0", x.count(0, 0, 0, -1, 0), 1);
        Check.due("good 0, bad -1", x.count(0, 0, 0, 0, -1), 1);
        Check.due("good -1, bad 1001", x.count(0, 0, 0, -1, 1001), 1);
        Check.due("good 1001, bad -1", x.count(0, 0, 0, 1001, -1), 1);
        Check.due("both 0", x.count(0, 0, 0, 0, 0), 0);
        Check.due("good 0", x.count(0, 1, 0, 0, 1), 0);
        Check.due("bad 0", x.count(0, 2, 0, 1, 0), 0);
        Check.due("asks", x.sum(0, 0, 0, 0), 2);
    }

    private static void togetherAboveAThousand() {
        Check.sentence("Terms 1, Promise 4", "or together above 1000");
        ShareKeeper x = keeper(0, 1000, 0);
        Check.due("1001 good", x.count(0, 0, 0, 1001, 0), 1);
        Check.due("1001 bad", x.count(0, 0, 0, 0, 1001), 1);
        Check.due("1001 together", x.count(0, 0, 0, 500, 501), 1);
        Check.due("1000 together", x.count(0, 0, 0, 499, 501), 0);
        ShareKeeper y = keeper(0, 10, 0);
        Check.due("1001 with MOST 10", y.count(0, 0, 0, 1000, 1), 1);
        Check.due("1000 with MOST 10", y.count(0, 0, 0, 0, 1000), 5);
        Check.due("1000 good with MOST 10", y.count(0, 0, 0, 1000, 0), 5);
    }

    private static void wrapAround() {
        Check.sentence("Terms 1, Promise 4", "good or bad below 0, or together above 1000");
        ShareKeeper x = keeper(0, 1000, 0);
        int greatest = Integer.MAX_VALUE;
        Check.due("to -2", x.count(0, 0, 0, greatest, greatest), 1);
        Check.due("to -2147483648", x.count(0, 0, 0, greatest, 1), 1);
        Check.due("to -2147483648", x.count(0, 0, 0, 1, greatest), 1);
        Check.due("to -2147483648", x.count(0, 0, 0, 1 << 30, 1 << 30), 1);
        Check.due("to 0", x.count(0, 0, 0, Integer.MIN_VALUE, Integer.MIN_VALUE), 1);
        Check.due("to 5", x.count(0, 0, 0, Integer.MIN_VALUE + 5, Integer.MIN_VALUE), 1);
        Check.answers("count(0, 0, 0, v, 1)", v -> x.count(0, 0, 0, v, 1), 1, Check.WILD);
        Check.answers("count(0, 0, 0, 1, v)", v -> x.count(0, 0, 0, 1, v), 1, Check.WILD);
        Check.answers("count(0, 0, 0, v, v)", v -> x.count(0, 0, 0, v, v), 1, Check.WILD);
        Check.due("nothing came", x.sum(0, 0, 0, 0), 0);
    }

    private static void again() {
        Check.sentence("Terms 1, Promise 4", "2 AGAIN: a COUNT of that SOURCE with this number was taken");
        ShareKeeper x = keeper(5, 100, 3);
        x.source(0, 5, 100);
        Check.due("the first", x.count(0, 7, 3, 1, 1), 0);
        Check.due("the same", x.count(0, 7, 3, 1, 1), 2);
        Check.due("other answers", x.count(0, 7, 3, 2, 0), 2);
        Check.due("another tick", x.count(0, 7, 2, 1, 1), 2);
        Check.due("once more", x.count(0, 7, 3, 1, 1), 2);
        Check.due("the next number", x.count(0, 8, 3, 1, 1), 0);
        Check.due("the number ahead", x.count(0, 6, 3, 1, 1), 0);
        Check.due("another SOURCE", x.count(1, 7, 3, 1, 1), 0);
        Check.due("and that again", x.count(1, 7, 3, 1, 1), 2);
        Check.due("nothing in it", x.count(0, 9, 3, 0, 0), 0);
        Check.due("nothing in it again", x.count(0, 9, 3, 0, 0), 2);
        x.ticks(500);
        Check.due("much later", x.count(0, 7, 503, 1, 1), 2);
    }

    private static void againOfARefusedNumber() {
        Check.sentence("Terms 1, Promise 4", "2 AGAIN: a COUNT of that SOURCE with this number was taken");
        ShareKeeper x = keeper(1, 10, 5);
        Check.due("why 1", x.count(0, 7, 5, 1000, 1), 1);
        Check.due("why 3", x.count(0, 7, 6, 1, 1), 3);
        Check.due("why 4", x.count(0, 7, 3, 1, 1), 4);
        Check.due("why 5", x.count(0, 7, 5, 10, 1), 5);
        Check.due("now it is taken", x.count(0, 7, 5, 9, 1), 0);
        Check.due("now it is AGAIN", x.count(0, 7, 4, 1, 1), 2);
    }

    private static void againOfAllNumbers() {
        Check.sentence("Terms 1, Promise 4", "a number that is not 0 .. 199; 2 AGAIN");
        ShareKeeper x = keeper(0, 1000, 0);
        for (int number = 0; number < 200; number++) {
            Check.due("count(0, " + number + ", 0, 1, 0)", x.count(0, number, 0, 1, 0), 0);
        }
        for (int number = 0; number < 200; number++) {
            Check.due("again count(0, " + number + ", 0, 1, 0)", x.count(0, number, 0, 1, 0), 2);
        }
        Check.due("each once", x.sum(0, 0, 0, 0), 200);
    }

    private static void aboveNow() {
        Check.sentence("Terms 1, Promise 4", "3 the tick is above NOW");
        ShareKeeper x = keeper(5, 10, 5);
        Check.answers("count(0, 0, t, 1, 1)", t -> x.count(0, 0, t, 1, 1), 3,
            6, 7, 600, 601, 602, 1000000, Integer.MAX_VALUE - 5, Integer.MAX_VALUE);
        Check.due("tick 5", x.count(0, 0, 5, 1, 1), 0);
        x.ticks(595);
        Check.answers("count(0, 1, t, 1, 1)", t -> x.count(0, 1, t, 1, 1), 3, 601, 602, 661, Integer.MAX_VALUE);
        Check.due("tick 600", x.count(0, 1, 600, 1, 1), 0);
    }

    private static void tooLate() {
        Check.sentence("Terms 1, Promise 4", "4 it is more than LATE below NOW");
        ShareKeeper x = keeper(2, 10, 5);
        Check.due("tick 2", x.count(0, 0, 2, 1, 1), 4);
        Check.due("tick 0", x.count(0, 0, 0, 1, 1), 4);
        Check.due("tick 2 with nothing in it", x.count(0, 0, 2, 0, 0), 4);
        Check.due("tick 3", x.count(0, 0, 3, 1, 1), 0);
    }

    private static void tooMany() {
        Check.sentence("Terms 1, Promise 4", "5 more than MOST asks of that tick would have come");
        ShareKeeper x = keeper(5, 10, 5);
        Check.due("11 at once", x.count(0, 0, 5, 5, 6), 5);
        Check.due("6", x.count(0, 0, 5, 4, 2), 0);
        Check.due("5 more", x.count(0, 1, 5, 4, 1), 5);
        Check.due("4 more", x.count(0, 1, 5, 0, 4), 0);
        Check.due("1 more", x.count(0, 2, 5, 0, 1), 5);
        Check.due("none more", x.count(0, 2, 5, 0, 0), 0);
    }

    private static void orderOfMalformed() {
        Check.sentence("Terms 1, Promise 4", "the first of: 1 ahead of the others");
        ShareKeeper x = keeper(1, 10, 5);
        x.count(0, 7, 5, 5, 5);
        Check.due("1 ahead of 2: tick", x.count(0, 7, -1, 1, 0), 1);
        Check.due("1 ahead of 2: good", x.count(0, 7, 5, -1, 5), 1);
        Check.due("1 ahead of 2: bad", x.count(0, 7, 5, 5, -1), 1);
        Check.due("1 ahead of 2: together", x.count(0, 7, 5, 1000, 1), 1);
        Check.due("1 ahead of 3: number", x.count(0, 200, 6, 1, 0), 1);
        Check.due("1 ahead of 3: together", x.count(0, 8, 6, 1000, 1), 1);
        Check.due("1 ahead of 4: number", x.count(0, -1, 0, 1, 0), 1);
        Check.due("1 ahead of 4: bad", x.count(0, 8, 0, 1, -1), 1);
        Check.due("1 ahead of 5: number", x.count(0, 200, 5, 1, 0), 1);
        Check.due("1 ahead of 5: together", x.count(0, 8, 5, 1, 1000), 1);
        Check.due("none was AGAIN", x.desk(5), 0);
    }

    private static void orderOfAgain() {
        Check.sentence("Terms 1, Promise 4", "the first of: 2 ahead of 3, 4, 5");
        ShareKeeper x = keeper(1, 10, 5);
        x.count(0, 7, 5, 5, 5);
        Check.due("2 ahead of 3", x.count(0, 7, 6, 1, 0), 2);
        Check.due("2 ahead of 3", x.count(0, 7, 601, 1, 0), 2);
        Check.due("2 ahead of 4", x.count(0, 7, 3, 1, 0), 2);
        Check.due("2 ahead of 5", x.count(0, 7, 5, 1, 0), 2);
        Check.due("all were AGAIN", x.desk(5), 4);
    }

    private static void orderOfTheOthers() {
        Check.sentence("Terms 1, Promise 4", "the first of: 3, 4 ahead of 5");
        ShareKeeper x = keeper(1, 10, 5);
        Check.due("3 ahead of 5", x.count(0, 0, 6, 11, 0), 3);
        Check.due("4 ahead of 5", x.count(0, 0, 3, 11, 0), 4);
        Check.due("3 ahead of 5", x.count(0, 0, 600, 0, 1000), 3);
        Check.due("4 ahead of 5", x.count(0, 0, 0, 0, 1000), 4);
        Check.due("5", x.count(0, 0, 4, 11, 0), 5);
    }

    private static void refusedChangesNothing() {
        Check.sentence("Promise 4", "A COUNT: 0, or why it is not taken");
        ShareKeeper x = keeper(1, 10, 5);
        Check.due("taken", x.count(0, 0, 5, 3, 2), 0);
        x.count(0, 1, 5, -1, 1);
        x.count(0, 0, 4, 1, 1);
        x.count(0, 1, 6, 1, 1);
        x.count(0, 1, 3, 1, 1);
        x.count(0, 1, 5, 5, 1);
        Check.due("asks", x.sum(0, 0, 600, 0), 5);
        Check.due("bad ones", x.sum(0, 0, 600, 1), 2);
        Check.due("may come at 5", x.sum(0, 5, 5, 2), 5);
        Check.due("may come at 4", x.sum(0, 4, 4, 2), 10);
        Check.due("the rest comes", x.count(0, 1, 5, 4, 1), 0);
        Check.due("asks", x.sum(0, 5, 5, 0), 10);
    }
}

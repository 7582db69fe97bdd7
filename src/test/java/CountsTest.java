/** Promises 4 and 8: counts, and the sums of them and of what may still come. */
public final class CountsTest {
    public static void main(String[] args) {
        whyNotTaken();
        orderOfReasons();
        numbersAreOfASource();
        lateness();
        mostOfATick();
        sums();
        sumsOfAllTicks();
        sumRefusals();
        Check.finish();
    }

    private static ShareKeeper keeper(int late, int most, int now) {
        ShareKeeper x = new ShareKeeper();
        x.service();
        x.source(0, late, most);
        x.ticks(now);
        return x;
    }

    private static void whyNotTaken() {
        ShareKeeper x = keeper(3, 1000, 10);
        Check.due("no source", x.count(1, 0, 10, 1, 1), 1);
        Check.due("number 200", x.count(0, 200, 10, 1, 1), 1);
        Check.due("number -1", x.count(0, -1, 10, 1, 1), 1);
        Check.due("tick -1", x.count(0, 0, -1, 1, 1), 1);
        Check.due("good -1", x.count(0, 0, 10, -1, 1), 1);
        Check.due("bad -1", x.count(0, 0, 10, 1, -1), 1);
        Check.due("together 1001", x.count(0, 0, 10, 500, 501), 1);
        for (int wild : Check.WILD) {
            Check.due("source " + wild, x.count(wild, 0, 10, 1, 1), 1);
            Check.due("number " + wild, x.count(0, wild, 10, 1, 1), 1);
            Check.due("good " + wild, x.count(0, 0, 10, wild, 1), 1);
            Check.due("bad " + wild, x.count(0, 0, 10, 1, wild), 1);
            Check.due("both " + wild, x.count(0, 0, 10, wild, wild), 1);
            Check.due("tick " + wild, x.count(0, 0, wild, 1, 1), wild < 0 ? 1 : 3);
        }
        Check.due("wrapping sum", x.count(0, 0, 10, Integer.MAX_VALUE, Integer.MAX_VALUE - 999), 1);
        Check.due("desk(4)", x.desk(4), 0);
        Check.due("together 1000", x.count(0, 199, 10, 499, 501), 0);
        Check.due("nothing in it", x.count(0, 0, 10, 0, 0), 0);
        Check.due("desk(4)", x.desk(4), 2);
        Check.due("desk(5)", x.desk(5), 0);
    }

    private static void orderOfReasons() {
        ShareKeeper x = keeper(1, 10, 5);
        Check.due("taken", x.count(0, 7, 5, 5, 5), 0);
        Check.due("malformed ahead of again", x.count(0, 7, 5, -1, 5), 1);
        Check.due("again ahead of too soon", x.count(0, 7, 6, 1, 0), 2);
        Check.due("again ahead of too late", x.count(0, 7, 0, 1, 0), 2);
        Check.due("again ahead of too many", x.count(0, 7, 5, 1, 0), 2);
        Check.due("too soon ahead of too many", x.count(0, 8, 6, 1000, 0), 3);
        Check.due("too late ahead of too many", x.count(0, 8, 3, 1000, 0), 4);
        Check.due("too many", x.count(0, 8, 5, 1, 0), 5);
        Check.due("a refused number may come", x.count(0, 8, 4, 1, 0), 0);
        Check.due("and is then again", x.count(0, 8, 4, 1, 0), 2);
        Check.due("desk(4)", x.desk(4), 2);
        Check.due("desk(5)", x.desk(5), 4);
        Check.due("again changes no sum", x.sum(0, 0, 600, 0), 11);
    }

    private static void numbersAreOfASource() {
        ShareKeeper x = keeper(0, 10, 0);
        x.source(0, 0, 10);
        Check.due("first", x.count(0, 3, 0, 1, 1), 0);
        Check.due("same number of another source", x.count(1, 3, 0, 2, 2), 0);
        Check.due("again of the other", x.count(1, 3, 0, 2, 2), 2);
        Check.due("both in the sum", x.sum(0, 0, 0, 0), 6);
        Check.due("both bad in the sum", x.sum(0, 0, 0, 1), 3);
    }

    private static void lateness() {
        ShareKeeper x = keeper(60, 10, 100);
        Check.due("60 late", x.count(0, 0, 40, 1, 0), 0);
        Check.due("61 late", x.count(0, 1, 39, 1, 0), 4);
        ShareKeeper y = keeper(0, 10, 600);
        Check.due("not late at the last tick", y.count(0, 0, 600, 1, 0), 0);
        Check.due("one late", y.count(0, 1, 599, 1, 0), 4);
        Check.due("tick 601", y.count(0, 1, 601, 1, 0), 3);
    }

    private static void mostOfATick() {
        ShareKeeper x = keeper(5, 10, 5);
        Check.due("6 asks", x.count(0, 0, 5, 4, 2), 0);
        Check.due("5 more", x.count(0, 1, 5, 4, 1), 5);
        Check.due("4 more", x.count(0, 1, 5, 0, 4), 0);
        Check.due("full, but nothing in it", x.count(0, 2, 5, 0, 0), 0);
        Check.due("another tick is not full", x.count(0, 3, 4, 10, 0), 0);
        Check.due("11 at once", x.count(0, 4, 3, 11, 0), 5);
    }

    private static void sums() {
        ShareKeeper x = new ShareKeeper();
        x.service();
        x.service();
        x.source(0, 2, 10);
        x.source(0, 0, 100);
        x.source(1, 5, 7);
        x.ticks(5);
        x.count(0, 0, 3, 2, 1);
        x.count(1, 0, 5, 20, 30);
        x.count(2, 0, 0, 1, 2);
        Check.due("asks", x.sum(0, 0, 5, 0), 53);
        Check.due("asks of one tick", x.sum(0, 3, 3, 0), 3);
        Check.due("bad", x.sum(0, 0, 5, 1), 31);
        Check.due("may come at 2", x.sum(0, 2, 2, 2), 0);
        Check.due("may come at 3", x.sum(0, 3, 3, 2), 7);
        Check.due("may come at 4", x.sum(0, 4, 4, 2), 10);
        Check.due("may come at 5", x.sum(0, 5, 5, 2), 60);
        Check.due("may come at 6", x.sum(0, 6, 6, 2), 110);
        Check.due("may come from 0 to 7", x.sum(0, 0, 7, 2), 7 + 10 + 60 + 220);
        Check.due("of the other", x.sum(1, 0, 5, 0), 3);
        Check.due("bad of the other", x.sum(1, 0, 5, 1), 2);
        Check.due("may come of the other", x.sum(1, 0, 0, 2), 4);
        x.ticks(1);
        Check.due("closed by the tick", x.sum(1, 0, 0, 2), 0);
        Check.due("closed at 3", x.sum(0, 3, 3, 2), 0);
    }

    private static void sumsOfAllTicks() {
        ShareKeeper x = new ShareKeeper();
        x.service();
        Check.due("without sources", x.sum(0, 0, 600, 2), 0);
        for (int i = 0; i < 16; i++) {
            x.source(0, 60, 1000);
        }
        Check.due("all may come", x.sum(0, 0, 600, 2), 16 * 1000 * 601);
        x.ticks(600);
        Check.due("61 ticks are open at the end", x.sum(0, 0, 600, 2), 16 * 1000 * 61);
        x.count(15, 0, 600, 300, 700);
        Check.due("the last tick counts", x.sum(0, 600, 600, 1), 700);
        Check.due("and has no more to come", x.sum(0, 600, 600, 2), 15000);
    }

    private static void sumRefusals() {
        ShareKeeper x = keeper(0, 1, 0);
        Check.due("service 1", x.sum(1, 0, 0, 0), Check.NONE);
        Check.due("low -1", x.sum(0, -1, 0, 0), Check.NONE);
        Check.due("high below low", x.sum(0, 5, 4, 0), Check.NONE);
        Check.due("high 601", x.sum(0, 5, 601, 0), Check.NONE);
        Check.due("low 601", x.sum(0, 601, 601, 0), Check.NONE);
        Check.due("what 3", x.sum(0, 0, 0, 3), Check.NONE);
        for (int wild : Check.WILD) {
            Check.due("service " + wild, x.sum(wild, 0, 0, 0), Check.NONE);
            Check.due("low " + wild, x.sum(0, wild, 600, 0), Check.NONE);
            Check.due("high " + wild, x.sum(0, 0, wild, 0), Check.NONE);
            Check.due("both " + wild, x.sum(0, wild, wild, 0), Check.NONE);
            Check.due("what " + wild, x.sum(0, 0, 0, wild), Check.NONE);
        }
    }
}

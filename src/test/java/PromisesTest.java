/** Promises 6 and 7: promises and their rows of grace, and what Terms 2 says of both. */
public final class PromisesTest {
    public static void main(String[] args) {
        promises();
        promiseOfNoService();
        widths();
        shares();
        promisesFull();
        grace();
        graceOfNoPromise();
        graceNotAboveNow();
        graceHighBelowLow();
        graceAbove600();
        graceFull();
        graceFullOfEach();
        refusedRowsAreNoRows();
        Check.finish();
    }

    /** A keeper whose promise 0 has spans of one tick: what 6 of a tick tells whether it is left out. */
    private static ShareKeeper keeper() {
        ShareKeeper x = new ShareKeeper();
        x.service();
        x.source(0, 60, 10);
        x.promise(0, 1, 0, false);
        return x;
    }

    /** With SHARE 0, MOST is all asks that may come: 10 for a tick of the span, 0 for one left out. */
    private static void leftOut(ShareKeeper x, int promise, int tick, boolean want) {
        Check.due("left out of " + promise + " is " + tick, x.span(promise, tick, 2), want ? 0 : 10);
    }

    private static void promises() {
        Check.sentence("Promise 6", "A PROMISE more (fixed: 1, else rolling): its number");
        ShareKeeper x = new ShareKeeper();
        x.service();
        x.service();
        x.source(0, 0, 10);
        x.source(1, 0, 20);
        Check.due("rolling", x.promise(0, 4, 0, false), 0);
        Check.due("fixed", x.promise(0, 4, 0, true), 1);
        Check.due("of another SERVICE", x.promise(1, 4, 0, false), 2);
        Check.due("desk(3)", x.desk(3), 3);
        Check.due("rolling at 5: 2 to 5", x.span(0, 5, 5), 6);
        Check.due("fixed at 5: 4 to 7", x.span(1, 5, 5), 8);
        Check.due("of the first SERVICE", x.span(0, 5, 2), 40);
        Check.due("of the other SERVICE", x.span(2, 5, 2), 80);
        Check.noSpan(x, 3, 5, 0);
    }

    private static void promiseOfNoService() {
        Check.sentence("Promise 6", "NONE: no such SERVICE");
        ShareKeeper x = new ShareKeeper();
        Check.due("without SERVICES", x.promise(0, 1, 0, false), Check.NONE);
        x.service();
        x.service();
        Check.none("promise(s, 1, 0, false)", s -> x.promise(s, 1, 0, false), -1, 2, 8);
        Check.none("promise(s, 1, 0, true)", s -> x.promise(s, 1, 0, true), -1, 2, 8);
        Check.due("none came", x.desk(3), 0);
        Check.due("the last SERVICE", x.promise(1, 1, 0, false), 0);
    }

    private static void widths() {
        Check.sentence("Terms 2, Promise 6", "a span of W ticks (1 .. 200); other numbers");
        ShareKeeper x = new ShareKeeper();
        x.service();
        Check.none("promise(0, w, 500, false)", w -> x.promise(0, w, 500, false), -1, 0, 201);
        Check.none("promise(0, w, 500, true)", w -> x.promise(0, w, 500, true), -1, 0, 201);
        Check.due("none came", x.desk(3), 0);
        Check.due("w 1", x.promise(0, 1, 500, false), 0);
        Check.due("w 200", x.promise(0, 200, 500, false), 1);
        Check.due("w 1 fixed", x.promise(0, 1, 500, true), 2);
        Check.due("w 200 fixed", x.promise(0, 200, 500, true), 3);
    }

    private static void shares() {
        Check.sentence("Terms 2, Promise 6", "at least SHARE thousandths (0 .. 1000) are good; other numbers");
        ShareKeeper x = new ShareKeeper();
        x.service();
        x.source(0, 0, 10);
        Check.none("promise(0, 5, share, false)", share -> x.promise(0, 5, share, false), -1, 1001);
        Check.none("promise(0, 5, share, true)", share -> x.promise(0, 5, share, true), -1, 1001);
        Check.due("none came", x.desk(3), 0);
        Check.due("share 0", x.promise(0, 1, 0, false), 0);
        Check.due("share 1000", x.promise(0, 1, 1000, false), 1);
        x.count(0, 0, 0, 0, 10);
        Check.due("all may be bad", x.span(0, 0, 0), 0);
        Check.due("all may be bad", x.span(0, 0, 3), 1);
        Check.due("none may be bad", x.span(1, 0, 0), -10);
        Check.due("none may be bad", x.span(1, 0, 3), 0);
    }

    private static void promisesFull() {
        Check.sentence("Terms 2, Promise 6", "PROMISES, 12 at most; NONE: 12 are there");
        ShareKeeper x = new ShareKeeper();
        x.service();
        x.service();
        for (int i = 0; i < 11; i++) {
            Check.due("promise", x.promise(i % 2, i + 1, i, i % 3 == 0), i);
        }
        Check.due("the 12th", x.promise(0, 1, 0, false), 11);
        Check.due("the 13th", x.promise(0, 1, 0, false), Check.NONE);
        Check.due("nor of the other SERVICE", x.promise(1, 1, 0, true), Check.NONE);
        Check.due("12 are left", x.desk(3), 12);
        Check.due("the last has spans", x.span(11, 0, 0), 0);
        Check.noSpan(x, 12, 0, 0);
    }

    private static void grace() {
        Check.sentence("Terms 2, Promise 7", "ticks of a PROMISE, told by rows from low to high: true");
        ShareKeeper x = keeper();
        x.promise(0, 1, 0, true);
        Check.due("7 to 9", x.grace(0, 7, 9), true);
        Check.due("12 to 12", x.grace(0, 12, 12), true);
        Check.due("8 to 10, over the first", x.grace(0, 8, 10), true);
        leftOut(x, 0, 6, false);
        leftOut(x, 0, 7, true);
        leftOut(x, 0, 8, true);
        leftOut(x, 0, 9, true);
        leftOut(x, 0, 10, true);
        leftOut(x, 0, 11, false);
        leftOut(x, 0, 12, true);
        leftOut(x, 0, 13, false);
        leftOut(x, 1, 8, false);
        Check.due("of the other PROMISE", x.grace(1, 6, 6), true);
        leftOut(x, 1, 6, true);
        leftOut(x, 0, 6, false);
    }

    private static void graceOfNoPromise() {
        Check.sentence("Promise 7", "false: no such PROMISE");
        ShareKeeper none = new ShareKeeper();
        none.service();
        Check.due("without PROMISES", none.grace(0, 1, 1), false);
        ShareKeeper x = keeper();
        Check.no("grace(p, 1, 1)", p -> x.grace(p, 1, 1), -1, 1, 12);
        leftOut(x, 0, 1, false);
    }

    private static void graceNotAboveNow() {
        Check.sentence("Terms 2, Promise 7", "a row only while low is above NOW; false: low not above NOW");
        ShareKeeper x = keeper();
        Check.due("at NOW 0", x.grace(0, 0, 3), false);
        Check.due("below 0", x.grace(0, -1, 3), false);
        Check.due("above NOW 0", x.grace(0, 1, 1), true);
        x.ticks(5);
        Check.due("at NOW 5", x.grace(0, 5, 9), false);
        Check.due("below NOW 5", x.grace(0, 4, 9), false);
        Check.no("grace(0, low, 600)", low -> x.grace(0, low, 600), 0, 1, 4, 5, 601);
        leftOut(x, 0, 5, false);
        leftOut(x, 0, 9, false);
        Check.due("above NOW 5", x.grace(0, 6, 9), true);
        leftOut(x, 0, 5, false);
        leftOut(x, 0, 6, true);
        x.ticks(594);
        Check.due("at NOW 599", x.grace(0, 599, 600), false);
        Check.due("above NOW 599", x.grace(0, 600, 600), true);
        x.ticks(1);
        Check.due("at NOW 600", x.grace(0, 600, 600), false);
        leftOut(x, 0, 600, true);
    }

    private static void graceHighBelowLow() {
        Check.sentence("Promise 7", "false: high below low");
        ShareKeeper x = keeper();
        Check.due("7 to 6", x.grace(0, 7, 6), false);
        Check.due("600 to 599", x.grace(0, 600, 599), false);
        Check.due("7 to 0", x.grace(0, 7, 0), false);
        Check.no("grace(0, 7, high)", high -> x.grace(0, 7, high), 6, 5);
        leftOut(x, 0, 6, false);
        leftOut(x, 0, 7, false);
        Check.due("7 to 7", x.grace(0, 7, 7), true);
        leftOut(x, 0, 7, true);
    }

    private static void graceAbove600() {
        Check.sentence("Promise 7", "false: high above 600");
        ShareKeeper x = keeper();
        Check.due("7 to 601", x.grace(0, 7, 601), false);
        Check.due("601 to 601", x.grace(0, 601, 601), false);
        Check.no("grace(0, 7, high)", high -> x.grace(0, 7, high), 601, 602);
        Check.no("grace(0, v, v)", v -> x.grace(0, v, v), 601, 602);
        leftOut(x, 0, 7, false);
        leftOut(x, 0, 600, false);
        Check.due("7 to 600", x.grace(0, 7, 600), true);
        leftOut(x, 0, 6, false);
        leftOut(x, 0, 7, true);
        leftOut(x, 0, 600, true);
    }

    private static void graceFull() {
        Check.sentence("Terms 2, Promise 7", "10 rows of each at most; false: 10 are there");
        ShareKeeper x = keeper();
        for (int i = 1; i <= 9; i++) {
            Check.due("row " + i, x.grace(0, 5, 5), true);
        }
        Check.due("row 10", x.grace(0, 20, 29), true);
        Check.due("row 11", x.grace(0, 8, 8), false);
        Check.due("nor one that is there", x.grace(0, 5, 5), false);
        leftOut(x, 0, 8, false);
        leftOut(x, 0, 5, true);
        leftOut(x, 0, 29, true);
        x.ticks(100);
        Check.due("nor when the others are over", x.grace(0, 200, 200), false);
        leftOut(x, 0, 200, false);
    }

    private static void graceFullOfEach() {
        Check.sentence("Terms 2", "10 rows of each at most");
        ShareKeeper x = keeper();
        x.promise(0, 1, 0, true);
        for (int i = 1; i <= 10; i++) {
            Check.due("row " + i + " of 0", x.grace(0, i, i), true);
            Check.due("row " + i + " of 1", x.grace(1, i + 10, i + 10), true);
        }
        Check.due("row 11 of 0", x.grace(0, 30, 30), false);
        Check.due("row 11 of 1", x.grace(1, 30, 30), false);
        leftOut(x, 0, 10, true);
        leftOut(x, 0, 11, false);
        leftOut(x, 1, 10, false);
        leftOut(x, 1, 20, true);
    }

    private static void refusedRowsAreNoRows() {
        Check.sentence("Terms 2, Promise 7", "10 rows of each at most");
        ShareKeeper x = keeper();
        for (int i = 1; i <= 12; i++) {
            x.grace(0, 0, 3);
            x.grace(0, 7, 6);
            x.grace(0, 7, 601);
        }
        for (int i = 1; i <= 10; i++) {
            Check.due("row " + i, x.grace(0, 40 + i, 40 + i), true);
        }
        Check.due("row 11", x.grace(0, 60, 60), false);
    }
}

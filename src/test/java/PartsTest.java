/** Promises 11 and 12: parts, the whole that is made of them, and what Terms 3 says of it. */
public final class PartsTest {
    public static void main(String[] args) {
        parts();
        anotherNumber();
        partsFull();
        least();
        greatest();
        allMustBeGood();
        oneMustBeGood();
        noAsks();
        greatNumbers();
        allWays();
        noneAreLeft();
        noParts();
        wrongK();
        anotherWhat();
        anotherN();
        morePartsThanN();
        goneInEachCase();
        Check.finish();
    }

    private static int made(int n, int k, int what, int... bad) {
        ShareKeeper x = new ShareKeeper();
        for (int b : bad) {
            x.part(b);
        }
        return x.made(n, k, what);
    }

    private static int[] same(int size, int bad) {
        int[] all = new int[size];
        java.util.Arrays.fill(all, bad);
        return all;
    }

    private static void parts() {
        Check.sentence("Promise 11", "A part for made(): so many bad ones (0 .. 100000): how many parts");
        ShareKeeper x = new ShareKeeper();
        Check.due("0", x.part(0), 1);
        Check.due("100000", x.part(100000), 2);
        Check.due("99999", x.part(99999), 3);
        Check.due("1", x.part(1), 4);
        Check.due("desk(8)", x.desk(8), 4);
        Check.due("of the four, all good", x.made(100000, 4, 0), 100000);
        Check.due("the first again", x.part(5), 1);
    }

    private static void anotherNumber() {
        Check.sentence("Promise 11", "NONE: another number");
        ShareKeeper x = new ShareKeeper();
        x.part(3);
        Check.none("part(bad)", bad -> x.part(bad), -1, 100001);
        Check.due("none came", x.desk(8), 1);
        Check.due("the next", x.part(4), 2);
        Check.due("made of 3 and 4", x.made(10, 2, 1), 7);
    }

    private static void partsFull() {
        Check.sentence("Promise 11", "NONE: 10 are there");
        ShareKeeper x = new ShareKeeper();
        for (int i = 1; i <= 9; i++) {
            Check.due("part " + i, x.part(1), i);
        }
        Check.due("part 10", x.part(1), 10);
        Check.due("part 11", x.part(1), Check.NONE);
        Check.due("part 11 once more", x.part(7), Check.NONE);
        Check.due("10 are left", x.desk(8), 10);
        Check.due("made of ten ones", x.made(100, 10, 1), 10);
        Check.due("again the first", x.part(1), 1);
    }

    private static void least() {
        Check.sentence("Terms 3, Promise 12", "what 0: the least number of asks for which it is bad");
        Check.due("3 of 3, 4, 5", made(10, 3, 0, 3, 4, 5), 5);
        Check.due("2 of 3, 4, 5", made(10, 2, 0, 3, 4, 5), 1);
        Check.due("1 of 3, 4, 5", made(10, 1, 0, 3, 4, 5), 0);
        Check.due("1 of 8, 7, 6: 21 bad over 10 asks, 2 each", made(10, 1, 0, 8, 7, 6), 1);
        Check.due("1 of 8, 7, 5: 20 bad over 10 asks, 2 each", made(10, 1, 0, 8, 7, 5), 0);
        Check.due("2 of 4, 4, 3: 11 bad over 10 asks, 1 each", made(10, 2, 0, 4, 4, 3), 1);
        Check.due("2 of 4, 4, 2: 10 bad over 10 asks, 1 each", made(10, 2, 0, 4, 4, 2), 0);
        Check.due("one part", made(10, 1, 0, 4), 4);
    }

    private static void greatest() {
        Check.sentence("Terms 3, Promise 12", "1: the greatest number of asks for which it is bad");
        Check.due("3 of 3, 4, 5", made(20, 3, 1, 3, 4, 5), 12);
        Check.due("3 of 3, 4, 5, but 10 asks", made(10, 3, 1, 3, 4, 5), 10);
        Check.due("2 of 3, 4, 5: 12 bad, 2 each", made(10, 2, 1, 3, 4, 5), 6);
        Check.due("2 of 3, 4, 4: 11 bad, 2 each", made(10, 2, 1, 3, 4, 4), 5);
        Check.due("1 of 3, 4, 5", made(10, 1, 1, 3, 4, 5), 3);
        Check.due("2 of 9, 1, 1: the 9 cannot meet itself", made(10, 2, 1, 9, 1, 1), 2);
        Check.due("one part", made(10, 1, 1, 4), 4);
    }

    private static void allMustBeGood() {
        Check.sentence("Terms 3", "good for an ask if at least k parts are (k all)");
        Check.due("all bad ones meet", made(10, 2, 0, 4, 6), 6);
        Check.due("none meet", made(10, 2, 1, 4, 6), 10);
        Check.due("none meet, but 9 asks", made(9, 2, 1, 4, 6), 9);
        Check.due("no bad ones", made(10, 2, 1, 0, 0), 0);
        Check.due("one part is always bad", made(10, 2, 0, 0, 10), 10);
        Check.due("ten parts", made(100, 10, 1, same(10, 7)), 70);
        Check.due("ten parts", made(100, 10, 0, same(10, 7)), 7);
    }

    private static void oneMustBeGood() {
        Check.sentence("Terms 3", "good for an ask if at least k parts are (k 1)");
        Check.due("all bad ones meet", made(10, 1, 1, 4, 6), 4);
        Check.due("none must meet", made(10, 1, 0, 4, 6), 0);
        Check.due("one must", made(10, 1, 0, 5, 6), 1);
        Check.due("all bad", made(5, 1, 0, 5, 5), 5);
        Check.due("all bad", made(5, 1, 1, 5, 5), 5);
        Check.due("one is always good", made(5, 1, 1, 5, 0), 0);
        Check.due("ten parts", made(100, 1, 0, same(10, 90)), 0);
        Check.due("ten parts", made(99, 1, 0, same(10, 90)), 9);
    }

    private static void noAsks() {
        Check.sentence("Promise 12", "of n asks (0 .. 100000) (n 0)");
        Check.due("least", made(0, 1, 0, 0), 0);
        Check.due("greatest", made(0, 1, 1, 0), 0);
        Check.due("greatest of two", made(0, 2, 1, 0, 0), 0);
        Check.due("a part above 0", made(0, 1, 1, 1), Check.NONE);
    }

    private static void greatNumbers() {
        Check.sentence("Promise 12", "of n asks (0 .. 100000) (n 100000)");
        Check.due("bad in all", made(100000, 2, 1, 100000, 100000), 100000);
        Check.due("bad in all", made(100000, 1, 0, 100000, 100000), 100000);
        Check.due("every other", made(100000, 2, 1, 50000, 50000), 100000);
        Check.due("one less", made(100000, 2, 1, 50000, 49999), 99999);
        Check.due("5 of 10", made(100000, 5, 1, same(10, 60000)), 100000);
        Check.due("5 of 10, least", made(100000, 5, 0, same(10, 60000)), 20000);
        Check.due("10 of 10, least", made(100000, 10, 0, same(10, 99999)), 99999);
        Check.due("1 of 10, least", made(100000, 1, 0, same(10, 99999)), 99990);
        Check.due("1 of 10, greatest", made(100000, 1, 1, same(10, 99999)), 99999);
    }

    /** Small wholes against all the ways in which their bad ones can meet. */
    private static void allWays() {
        Check.sentence("Terms 3", "Of all ways in which bad ones may meet");
        for (int n = 0; n <= 5; n++) {
            for (int size = 1; size <= 3; size++) {
                int[] bad = new int[size];
                do {
                    compareAll(n, bad);
                } while (next(bad, n));
            }
        }
        compareAll(5, new int[] {1, 2, 3, 4});
        compareAll(4, new int[] {2, 2, 2, 1});
        compareAll(4, new int[] {4, 1, 1, 0, 2});
    }

    private static void compareAll(int n, int[] bad) {
        for (int k = 1; k <= bad.length; k++) {
            int[] ends = {Integer.MAX_VALUE, Integer.MIN_VALUE};
            walk(n, k, bad.clone(), 0, ends);
            String label = "made(" + n + ", " + k + ") of " + java.util.Arrays.toString(bad);
            Check.due(label + " least", made(n, k, 0, bad), ends[0]);
            Check.due(label + " greatest", made(n, k, 1, bad), ends[1]);
        }
    }

    private static void walk(int asks, int k, int[] bad, int badWholes, int[] ends) {
        if (asks == 0) {
            for (int b : bad) {
                if (b != 0) {
                    return;
                }
            }
            ends[0] = Math.min(ends[0], badWholes);
            ends[1] = Math.max(ends[1], badWholes);
            return;
        }
        for (int mask = 0; mask < 1 << bad.length; mask++) {
            boolean can = true;
            for (int i = 0; i < bad.length; i++) {
                bad[i] -= mask >> i & 1;
                can &= bad[i] >= 0 && bad[i] < asks;
            }
            if (can) {
                int good = bad.length - Integer.bitCount(mask);
                walk(asks - 1, k, bad, badWholes + (good >= k ? 0 : 1), ends);
            }
            for (int i = 0; i < bad.length; i++) {
                bad[i] += mask >> i & 1;
            }
        }
    }

    private static boolean next(int[] row, int greatest) {
        for (int i = 0; i < row.length; i++) {
            if (row[i] < greatest) {
                row[i]++;
                return true;
            }
            row[i] = 0;
        }
        return false;
    }

    private static void noneAreLeft() {
        Check.sentence("Promise 12", "Of a whole made of these parts (none are left then)");
        ShareKeeper x = new ShareKeeper();
        x.part(3);
        x.part(4);
        Check.due("made", x.made(10, 1, 1), 3);
        Check.due("desk(8)", x.desk(8), 0);
        Check.due("of none", x.made(10, 1, 1), Check.NONE);
        Check.due("the first again", x.part(2), 1);
        Check.due("those of old are gone", x.made(10, 1, 1), 2);
    }

    private static void noParts() {
        Check.sentence("Promise 12", "NONE: no parts");
        for (int what = 0; what <= 1; what++) {
            Check.due("k 1", made(5, 1, what), Check.NONE);
            Check.due("k 0", made(5, 0, what), Check.NONE);
            Check.due("n 0, k 0", made(0, 0, what), Check.NONE);
        }
    }

    private static void wrongK() {
        Check.sentence("Promise 12", "NONE: k not 1 .. all");
        for (int what = 0; what <= 1; what++) {
            int asked = what;
            Check.none("made(5, k, " + what + ") of 1", k -> made(5, k, asked, 1), 0, 2);
            Check.none("made(5, k, " + what + ") of 1, 1", k -> made(5, k, asked, 1, 1), 0, 3);
            Check.none("made(5, k, " + what + ") of ten", k -> made(5, k, asked, same(10, 1)), 0, 11);
        }
        Check.due("k 1", made(5, 1, 1, 1, 1), 1);
        Check.due("k 2", made(5, 2, 1, 1, 1), 2);
    }

    private static void anotherWhat() {
        Check.sentence("Promise 12", "NONE: another what");
        Check.none("made(5, 1, what) of 1, 1", what -> made(5, 1, what, 1, 1), -1, 2);
    }

    private static void anotherN() {
        Check.sentence("Promise 12", "of n asks (0 .. 100000); NONE: another n");
        for (int what = 0; what <= 1; what++) {
            int asked = what;
            Check.none("made(n, 1, " + what + ") of 0", n -> made(n, 1, asked, 0), -1, 100001);
        }
        Check.due("n 100000", made(100000, 1, 1, 0), 0);
        Check.due("n 0", made(0, 1, 1, 0), 0);
    }

    private static void morePartsThanN() {
        Check.sentence("Promise 12", "NONE: a part with more bad ones than n");
        for (int what = 0; what <= 1; what++) {
            Check.due("the first", made(5, 1, what, 6, 1), Check.NONE);
            Check.due("the last", made(5, 1, what, 1, 6), Check.NONE);
            Check.due("the tenth", made(5, 1, what, 1, 1, 1, 1, 1, 1, 1, 1, 1, 6), Check.NONE);
            Check.due("100000 of 99999", made(99999, 1, what, 100000), Check.NONE);
            Check.due("5 of 5", made(5, 1, what, 5), 5);
            Check.due("100000 of 100000", made(100000, 1, what, 100000), 100000);
        }
        Check.due("5 and 5 of 5, more together", made(5, 2, 1, 5, 5), 5);
    }

    private static void goneInEachCase() {
        Check.sentence("Promise 12", "(the parts are gone in each case)");
        int[][] refused = {{5, 0, 0}, {5, 3, 0}, {5, 1, -1}, {5, 1, 2}, {-1, 1, 0}, {100001, 1, 0}, {3, 1, 0},
            {5, Integer.MIN_VALUE, 0}, {5, Integer.MAX_VALUE, 1}, {Integer.MAX_VALUE, 1, 1}, {5, 1, Integer.MAX_VALUE}};
        ShareKeeper x = new ShareKeeper();
        for (int[] r : refused) {
            Check.due("a part", x.part(1), 1);
            Check.due("a part", x.part(4), 2);
            String call = "made(" + r[0] + ", " + r[1] + ", " + r[2] + ")";
            Check.due(call, x.made(r[0], r[1], r[2]), Check.NONE);
            Check.due("desk(8) behind " + call, x.desk(8), 0);
        }
        Check.due("of none", x.made(5, 1, 0), Check.NONE);
        x.part(2);
        Check.due("of one alone", x.made(5, 1, 1), 2);
    }
}

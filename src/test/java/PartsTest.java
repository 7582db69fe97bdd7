/** Promises 11 and 12: parts, and the whole that is made of them. */
public final class PartsTest {
    public static void main(String[] args) {
        parts();
        ordinary();
        none();
        greatNumbers();
        allWays();
        Check.finish();
    }

    private static int made(int n, int k, int what, int... bad) {
        ShareKeeper x = new ShareKeeper();
        for (int b : bad) {
            x.part(b);
        }
        int answer = x.made(n, k, what);
        Check.due("desk(8) after made", x.desk(8), 0);
        return answer;
    }

    private static void parts() {
        ShareKeeper x = new ShareKeeper();
        Check.due("-1", x.part(-1), Check.NONE);
        Check.due("100001", x.part(100001), Check.NONE);
        for (int wild : Check.WILD) {
            Check.due("part(" + wild + ")", x.part(wild), Check.NONE);
        }
        Check.due("least", x.part(0), 1);
        Check.due("greatest", x.part(100000), 2);
        for (int i = 3; i <= 10; i++) {
            Check.due("part", x.part(i), i);
            Check.due("desk(8)", x.desk(8), i);
        }
        Check.due("beyond 10", x.part(1), Check.NONE);
        Check.due("desk(8)", x.desk(8), 10);
        Check.due("made of ten", x.made(100000, 10, 1), 100000);
        Check.due("again the first", x.part(1), 1);
        Check.due("the parts of old are gone", x.made(5, 1, 1), 1);
    }

    private static void ordinary() {
        Check.due("all parts must be good, least", made(10, 3, 0, 3, 4, 5), 5);
        Check.due("all parts must be good, greatest", made(20, 3, 1, 3, 4, 5), 12);
        Check.due("one of three, greatest", made(10, 1, 1, 3, 4, 5), 3);
        Check.due("one of three, least", made(10, 1, 0, 8, 7, 6), 1);
        Check.due("two of three, greatest", made(10, 2, 1, 3, 4, 5), 6);
        Check.due("two of three, least", made(10, 2, 0, 3, 4, 5), 1);
        Check.due("one great part", made(10, 2, 1, 9, 1, 1), 2);
        Check.due("one part", made(10, 1, 0, 4), 4);
        Check.due("no asks", made(0, 1, 1, 0), 0);
        Check.due("no asks, least", made(0, 1, 0, 0), 0);
        Check.due("all bad", made(5, 1, 0, 5, 5), 5);
        Check.due("all good", made(5, 2, 1, 0, 0), 0);
    }

    private static void none() {
        Check.due("no parts", made(5, 1, 0), Check.NONE);
        Check.due("k 0", made(5, 0, 0, 1, 1), Check.NONE);
        Check.due("k above all", made(5, 3, 0, 1, 1), Check.NONE);
        Check.due("what -1", made(5, 1, -1, 1, 1), Check.NONE);
        Check.due("what 2", made(5, 1, 2, 1, 1), Check.NONE);
        Check.due("n -1", made(-1, 1, 0, 0), Check.NONE);
        Check.due("n 100001", made(100001, 1, 0, 0), Check.NONE);
        Check.due("a part above n", made(5, 1, 0, 1, 6), Check.NONE);
        Check.due("a part at n", made(5, 1, 0, 1, 5), 1);
        for (int wild : Check.WILD) {
            Check.due("n " + wild, made(wild, 1, 0, 0), Check.NONE);
            Check.due("k " + wild, made(5, wild, 0, 1), Check.NONE);
            Check.due("what " + wild, made(5, 1, wild, 1), Check.NONE);
        }
    }

    private static void greatNumbers() {
        Check.due("greatest of all", made(100000, 10, 1, 100000, 100000), Check.NONE);
        Check.due("bad in all", made(100000, 2, 1, 100000, 100000), 100000);
        Check.due("every other", made(100000, 2, 1, 50000, 50000), 100000);
        Check.due("just less", made(100000, 2, 1, 50000, 49999), 99999);
        Check.due("five of ten", made(100000, 5, 1, 60000, 60000, 60000, 60000, 60000,
            60000, 60000, 60000, 60000, 60000), 100000);
        Check.due("five of ten, least", made(100000, 5, 0, 60000, 60000, 60000, 60000, 60000,
            60000, 60000, 60000, 60000, 60000), 20000);
    }

    /** Small wholes against all the ways in which their bad ones can meet. */
    private static void allWays() {
        for (int n = 0; n <= 5; n++) {
            for (int size = 1; size <= 3; size++) {
                int[] bad = new int[size];
                do {
                    compareAll(n, bad);
                } while (next(bad, n));
            }
        }
        compareAll(5, new int[] {1, 2, 3, 4});
        compareAll(4, new int[] {2, 2, 2, 1});
        compareAll(4, new int[] {4, 1, 1, 0, 2});
    }

    private static void compareAll(int n, int[] bad) {
        for (int k = 1; k <= bad.length; k++) {
            int[] ends = {Integer.MAX_VALUE, Integer.MIN_VALUE};
            walk(n, k, bad.clone(), 0, ends);
            String label = "made(" + n + ", " + k + ") of " + java.util.Arrays.toString(bad);
            Check.due(label + " least", made(n, k, 0, bad), ends[0]);
            Check.due(label + " greatest", made(n, k, 1, bad), ends[1]);
        }
    }

    private static void walk(int asks, int k, int[] bad, int badWholes, int[] ends) {
        if (asks == 0) {
            for (int b : bad) {
                if (b != 0) {
                    return;
                }
            }
            ends[0] = Math.min(ends[0], badWholes);
            ends[1] = Math.max(ends[1], badWholes);
            return;
        }
        for (int mask = 0; mask < 1 << bad.length; mask++) {
            boolean can = true;
            for (int i = 0; i < bad.length; i++) {
                bad[i] -= mask >> i & 1;
                can &= bad[i] >= 0 && bad[i] < asks;
            }
            if (can) {
                int good = bad.length - Integer.bitCount(mask);
                walk(asks - 1, k, bad, badWholes + (good >= k ? 0 : 1), ends);
            }
            for (int i = 0; i < bad.length; i++) {
                bad[i] += mask >> i & 1;
            }
        }
    }

    private static boolean next(int[] row, int greatest) {
        for (int i = 0; i < row.length; i++) {
            if (row[i] < greatest) {
                row[i]++;
                return true;
            }
            row[i] = 0;
        }
        return false;
    }
}

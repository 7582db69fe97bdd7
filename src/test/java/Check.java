import java.util.NoSuchElementException;

/** What the tests share: they compare answers, tell the wrong ones, and end with exit code 1. */
final class Check {
    static final int NONE = ShareKeeper.NONE;
    /** Numbers that no argument may be, and those at which arithmetic wraps around. */
    static final int[] WILD = {Integer.MIN_VALUE, Integer.MIN_VALUE + 1, -100001, -1000, -2, -1,
        100001, 1000000, Integer.MAX_VALUE - 1, Integer.MAX_VALUE};
    private static int wrong;
    private static int made;

    private Check() {
    }

    static void due(String call, long got, long want) {
        made++;
        if (got != want) {
            wrong++;
            System.out.println(call + " answered " + got + ", due is " + want);
        }
    }

    static void due(String call, boolean got, boolean want) {
        due(call, got ? 1 : 0, want ? 1 : 0);
    }

    /** All eight answers of span() in the order of what. */
    static void spanDue(ShareKeeper x, int promise, int tick, int... want) {
        for (int what = 0; what < want.length; what++) {
            due("span(" + promise + ", " + tick + ", " + what + ")", x.span(promise, tick, what), want[what]);
        }
    }

    static void noSpan(ShareKeeper x, int promise, int tick, int what) {
        boolean thrown = false;
        try {
            x.span(promise, tick, what);
        } catch (NoSuchElementException e) {
            thrown = true;
        }
        due("span(" + promise + ", " + tick + ", " + what + ") throws", thrown, true);
    }

    static void finish() {
        System.out.println(made + " answers looked at, " + wrong + " wrong");
        if (wrong != 0) {
            System.exit(1);
        }
    }
}

import java.util.NoSuchElementException;
import java.util.function.IntPredicate;
import java.util.function.IntUnaryOperator;

/** What the tests share: they compare answers, tell the wrong ones, and end with exit code 1. */
final class Check {
    static final int NONE = ShareKeeper.NONE;
    /** Numbers that no argument may be, and those at which arithmetic wraps around. */
    static final int[] WILD = {Integer.MIN_VALUE, Integer.MIN_VALUE + 1, -1000000, -100001, -1001, -601, -2, -1,
        100001, 1000000, 1 << 30, Integer.MAX_VALUE - 600, Integer.MAX_VALUE - 1, Integer.MAX_VALUE};
    private static String sentence = "";
    private static int wrong;
    private static int made;

    private Check() {
    }

    /** The place and the words of the document that the answers looked at next are due to. */
    static void sentence(String place, String words) {
        sentence = place + ", '" + words + "': ";
    }

    static void due(String call, long got, long want) {
        made++;
        if (got != want) {
            wrong++;
            System.out.println(sentence + call + " answered " + got + ", due is " + want);
        }
    }

    static void due(String call, boolean got, boolean want) {
        due(call, got ? 1 : 0, want ? 1 : 0);
    }

    /** NONE is due to each of the edges, and to each wild number. */
    static void none(String call, IntUnaryOperator asked, int... edges) {
        answers(call, asked, NONE, edges);
        answers(call, asked, NONE, WILD);
    }

    /** No is due to each of the edges, and to each wild number. */
    static void no(String call, IntPredicate asked, int... edges) {
        IntUnaryOperator number = value -> asked.test(value) ? 1 : 0;
        answers(call, number, 0, edges);
        answers(call, number, 0, WILD);
    }

    static void answers(String call, IntUnaryOperator asked, int want, int... values) {
        for (int value : values) {
            due(call + " with " + value, asked.applyAsInt(value), want);
        }
    }

    /** The answers of span() in the order of what, from 0 on. */
    static void spanDue(ShareKeeper x, int promise, int tick, int... want) {
        for (int what = 0; what < want.length; what++) {
            due("span(" + promise + ", " + tick + ", " + what + ")", x.span(promise, tick, what), want[what]);
        }
    }

    static void noSpan(ShareKeeper x, int promise, int tick, int what) {
        boolean thrown = false;
        try {
            x.span(promise, tick, what);
        } catch (NoSuchElementException e) {
            thrown = true;
        }
        due("span(" + promise + ", " + tick + ", " + what + ") throws", thrown, true);
    }

    /** All nine answers of desk() in the order of what. */
    static void deskDue(ShareKeeper x, int... want) {
        for (int what = 0; what < want.length; what++) {
            due("desk(" + what + ")", x.desk(what), want[what]);
        }
    }

    static void finish() {
        System.out.println(made + " answers looked at, " + wrong + " wrong");
        if (wrong != 0) {
            System.exit(1);
        }
    }
}

/** Promises 17 to 22: changes, letting them out, settling them, plans, and a look at them. */
public final class ChangesTest {
    public static void main(String[] args) {
        changes();
        letAndSettle();
        roomIsOfThePromise();
        roomIsLeast();
        plans();
        planOfEqual();
        planOfFourteen();
        planWithoutRoom();
        latestPlan();
        looks();
        Check.finish();
    }

    /** A keeper whose promises 0 and 1 both have the room 100 at NOW, and go on having it. */
    private static ShareKeeper keeper() {
        ShareKeeper x = new ShareKeeper();
        x.service();
        x.source(0, 0, 1000);
        x.promise(0, 1, 900, false);
        x.promise(0, 1, 900, true);
        x.count(0, 0, 0, 1000, 0);
        return x;
    }

    private static void changes() {
        ShareKeeper x = keeper();
        Check.due("no promise", x.change(2, 1, 1), Check.NONE);
        Check.due("guess -1", x.change(0, -1, 1), Check.NONE);
        Check.due("guess 100001", x.change(0, 100001, 1), Check.NONE);
        Check.due("worth -1", x.change(0, 1, -1), Check.NONE);
        Check.due("worth 1001", x.change(0, 1, 1001), Check.NONE);
        for (int wild : Check.WILD) {
            Check.due("promise " + wild, x.change(wild, 1, 1), Check.NONE);
            Check.due("guess " + wild, x.change(0, wild, 1), Check.NONE);
            Check.due("worth " + wild, x.change(0, 1, wild), Check.NONE);
        }
        Check.due("desk(7)", x.desk(7), 0);
        Check.due("least", x.change(0, 0, 0), 0);
        Check.due("greatest", x.change(1, 100000, 1000), 1);
        for (int i = 2; i < 40; i++) {
            Check.due("change", x.change(i % 2, i, i), i);
        }
        Check.due("beyond 40", x.change(0, 1, 1), Check.NONE);
        Check.due("desk(7) at 40", x.desk(7), 40);
    }

    private static void letAndSettle() {
        ShareKeeper x = keeper();
        x.change(0, 60, 1);
        x.change(0, 40, 1);
        x.change(0, 1, 1);
        x.change(0, 0, 1);
        x.change(0, 101, 1);
        Check.due("above the room", x.let(4), false);
        Check.due("settle while waiting", x.settle(0, 5), false);
        Check.due("let", x.let(0), true);
        Check.due("let again", x.let(0), false);
        Check.due("just the room", x.let(1), true);
        Check.due("one above it", x.let(2), false);
        Check.due("a guess of 0 has room", x.let(3), true);
        Check.due("cost -1", x.settle(0, -1), false);
        Check.due("cost 100001", x.settle(0, 100001), false);
        Check.due("cost 100000", x.settle(0, 100000), true);
        Check.due("settled once", x.settle(0, 100000), false);
        Check.due("let when settled", x.let(0), false);
        Check.due("the cost takes no room", x.let(2), true);
        Check.due("cost 0", x.settle(1, 0), true);
        for (int wild : Check.WILD) {
            Check.due("let " + wild, x.let(wild), false);
            Check.due("settle " + wild, x.settle(wild, 1), false);
            Check.due("cost " + wild, x.settle(2, wild), false);
        }
        Check.due("let 5", x.let(5), false);
        Check.due("settle 5", x.settle(5, 1), false);
    }

    private static void roomIsOfThePromise() {
        ShareKeeper x = keeper();
        x.change(0, 100, 1);
        x.change(1, 100, 1);
        x.change(1, 1, 1);
        Check.due("of one", x.let(0), true);
        Check.due("of the other", x.let(1), true);
        Check.due("no more of the other", x.let(2), false);
    }

    private static void roomIsLeast() {
        ShareKeeper x = new ShareKeeper();
        x.service();
        x.source(0, 1, 100);
        x.promise(0, 2, 500, false);
        x.change(0, 0, 1);
        x.change(0, 40, 1);
        x.count(0, 0, 0, 100, 0);
        Check.due("room 50", x.let(1), true);
        x.ticks(1);
        Check.due("least is 0, 40 are out", x.span(0, 1, 1), 0);
        Check.due("below 0 not even a guess of 0", x.let(0), false);
        x.settle(1, 3);
        Check.due("at 0 a guess of 0", x.let(0), true);
    }

    private static void plans() {
        ShareKeeper x = keeper();
        Check.due("no change", x.plan(0), 0);
        Check.due("none planned", x.planned(0), Check.NONE);
        x.change(0, 60, 6);
        x.change(1, 1, 1000);
        x.change(0, 50, 5);
        x.change(0, 50, 5);
        x.change(0, 101, 1000);
        x.change(0, 0, 0);
        Check.due("the greatest worth", x.plan(0), 10);
        Check.due("planned(0)", x.planned(0), 2);
        Check.due("planned(1)", x.planned(1), 3);
        Check.due("planned(2)", x.planned(2), Check.NONE);
        x.let(2);
        Check.due("what is out takes room", x.plan(0), 5);
        Check.due("planned(0)", x.planned(0), 3);
        Check.due("planned(1)", x.planned(1), Check.NONE);
        x.settle(2, 100);
        Check.due("what is settled does not wait", x.plan(0), 6);
        Check.due("planned(0)", x.planned(0), 0);
        Check.due("the other promise", x.plan(1), 1000);
        Check.due("planned(0)", x.planned(0), 1);
    }

    private static void planOfEqual() {
        ShareKeeper x = keeper();
        x.change(0, 50, 3);
        x.change(0, 10, 4);
        x.change(0, 90, 7);
        Check.due("the fewest", x.plan(0), 7 + 4);
        x.change(0, 100, 11);
        Check.due("the fewest", x.plan(0), 11);
        Check.due("the fewest", x.planned(0), 3);
        Check.due("the fewest", x.planned(1), Check.NONE);
        ShareKeeper y = keeper();
        y.change(0, 70, 1);
        y.change(0, 30, 3);
        y.change(0, 70, 3);
        y.change(0, 30, 1);
        y.change(0, 0, 0);
        Check.due("one with the least numbers", y.plan(0), 6);
        Check.due("planned", y.planned(0), 1);
        Check.due("planned", y.planned(1), 2);
        Check.due("planned", y.planned(2), Check.NONE);
        ShareKeeper z = keeper();
        z.change(0, 60, 5);
        z.change(0, 50, 5);
        z.change(0, 50, 5);
        z.change(0, 40, 5);
        Check.due("the first ahead", z.plan(0), 10);
        Check.due("planned", z.planned(0), 0);
        Check.due("planned", z.planned(1), 3);
    }

    private static void planOfFourteen() {
        ShareKeeper x = keeper();
        for (int i = 0; i < 16; i++) {
            x.change(0, 1, 1);
        }
        x.change(0, 1, 1000);
        Check.due("the first 14", x.plan(0), 14);
        for (int i = 0; i < 14; i++) {
            Check.due("planned(" + i + ")", x.planned(i), i);
        }
        Check.due("planned(14)", x.planned(14), Check.NONE);
        x.let(0);
        x.let(1);
        Check.due("of those that wait", x.plan(0), 14);
        Check.due("the first that waits", x.planned(0), 2);
        Check.due("the last", x.planned(13), 15);
        x.let(15);
        Check.due("the great one is among them", x.plan(0), 1013);
        Check.due("the last", x.planned(13), 16);
    }

    private static void planWithoutRoom() {
        ShareKeeper x = keeper();
        x.change(0, 0, 5);
        Check.due("at first", x.plan(0), 5);
        x.ticks(1);
        Check.due("least", x.span(0, 1, 1), -900);
        Check.due("none below 0", x.plan(0), 0);
        Check.due("none planned", x.planned(0), Check.NONE);
        ShareKeeper y = new ShareKeeper();
        y.service();
        y.promise(0, 1, 900, false);
        y.change(0, 0, 5);
        y.change(0, 1, 5);
        Check.due("room 0", y.plan(0), 5);
        Check.due("room 0", y.planned(0), 0);
    }

    private static void latestPlan() {
        ShareKeeper x = keeper();
        x.change(0, 1, 1);
        x.change(0, 2, 2);
        x.plan(0);
        x.let(0);
        x.settle(0, 1);
        x.ticks(1);
        Check.due("it stays", x.planned(0), 0);
        Check.due("no such promise", x.plan(2), Check.NONE);
        Check.due("it stays", x.planned(1), 1);
        for (int wild : Check.WILD) {
            Check.due("plan(" + wild + ")", x.plan(wild), Check.NONE);
            Check.due("planned(" + wild + ")", x.planned(wild), Check.NONE);
        }
        Check.due("it stays", x.planned(1), 1);
        Check.due("planned(-1)", x.planned(-1), Check.NONE);
    }

    private static void looks() {
        ShareKeeper x = keeper();
        x.change(0, 7, 8);
        x.change(1, 9, 10);
        int[][] want = {{0, 0, 7, 8, 0}, {0, 1, 9, 10, 0}};
        lookDue(x, want);
        x.let(1);
        want[1][0] = 1;
        lookDue(x, want);
        x.settle(1, 77);
        want[1][0] = 2;
        want[1][4] = 77;
        lookDue(x, want);
        Check.due("look(2, 0)", x.look(2, 0), Check.NONE);
        Check.due("look(0, 5)", x.look(0, 5), Check.NONE);
        for (int wild : Check.WILD) {
            Check.due("look(" + wild + ", 0)", x.look(wild, 0), Check.NONE);
            Check.due("look(0, " + wild + ")", x.look(0, wild), Check.NONE);
        }
    }

    private static void lookDue(ShareKeeper x, int[][] want) {
        for (int change = 0; change < want.length; change++) {
            for (int what = 0; what < 5; what++) {
                Check.due("look(" + change + ", " + what + ")", x.look(change, what), want[change][what]);
            }
        }
    }
}

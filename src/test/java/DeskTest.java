/** Promises 1 to 3, 5 and 23: a new object, services, sources, ticks, and what the desk tells of them. */
public final class DeskTest {
    public static void main(String[] args) {
        newObject();
        services();
        sources();
        ticks();
        deskNumbers();
        Check.finish();
    }

    private static void newObject() {
        ShareKeeper x = new ShareKeeper();
        for (int what = 0; what <= 8; what++) {
            Check.due("new desk(" + what + ")", x.desk(what), 0);
        }
        Check.due("new planned(0)", x.planned(0), Check.NONE);
        Check.due("new count(0, 0, 0, 0, 0)", x.count(0, 0, 0, 0, 0), 1);
        Check.due("new sum(0, 0, 0, 0)", x.sum(0, 0, 0, 0), Check.NONE);
        Check.due("new broken(0, 0)", x.broken(0, 0), Check.NONE);
        Check.due("new plan(0)", x.plan(0), Check.NONE);
        Check.due("new look(0, 0)", x.look(0, 0), Check.NONE);
        Check.due("new let(0)", x.let(0), false);
        Check.due("new settle(0, 0)", x.settle(0, 0), false);
        Check.due("new grace(0, 1, 1)", x.grace(0, 1, 1), false);
        Check.due("new rings(0, 0)", x.rings(0, 0), Check.NONE);
        Check.due("new soonest(0, 0, 10, 0)", x.soonest(0, 0, 10, 0), Check.NONE);
        Check.due("new best(0, 0, 10, 10)", x.best(0, 0, 10, 10), Check.NONE);
        Check.due("new made(0, 1, 0)", x.made(0, 1, 0), Check.NONE);
        Check.noSpan(x, 0, 0, 0);
    }

    private static void services() {
        ShareKeeper x = new ShareKeeper();
        for (int i = 0; i < 8; i++) {
            Check.due("service()", x.service(), i);
            Check.due("desk(0)", x.desk(0), i + 1);
        }
        Check.due("service() beyond 8", x.service(), Check.NONE);
        Check.due("desk(0) at 8", x.desk(0), 8);
    }

    private static void sources() {
        ShareKeeper x = new ShareKeeper();
        Check.due("source without service", x.source(0, 0, 1), Check.NONE);
        x.service();
        x.service();
        Check.due("late -1", x.source(0, -1, 1), Check.NONE);
        Check.due("late 61", x.source(0, 61, 1), Check.NONE);
        Check.due("most 0", x.source(0, 0, 0), Check.NONE);
        Check.due("most 1001", x.source(0, 0, 1001), Check.NONE);
        Check.due("service 2", x.source(2, 0, 1), Check.NONE);
        for (int wild : Check.WILD) {
            Check.due("source(" + wild + ", 0, 1)", x.source(wild, 0, 1), Check.NONE);
            Check.due("source(0, " + wild + ", 1)", x.source(0, wild, 1), Check.NONE);
            Check.due("source(0, 0, " + wild + ")", x.source(0, 0, wild), Check.NONE);
        }
        Check.due("desk(1)", x.desk(1), 0);
        Check.due("least numbers", x.source(0, 0, 1), 0);
        Check.due("greatest numbers", x.source(1, 60, 1000), 1);
        for (int i = 2; i < 16; i++) {
            Check.due("source", x.source(i % 2, i, i), i);
        }
        Check.due("source beyond 16", x.source(0, 0, 1), Check.NONE);
        Check.due("desk(1) at 16", x.desk(1), 16);
    }

    private static void ticks() {
        ShareKeeper x = new ShareKeeper();
        Check.due("ticks(0)", x.ticks(0), 0);
        Check.due("ticks(-1)", x.ticks(-1), Check.NONE);
        Check.due("ticks(601)", x.ticks(601), Check.NONE);
        Check.due("ticks(7)", x.ticks(7), 7);
        Check.due("desk(2)", x.desk(2), 7);
        Check.due("ticks(594)", x.ticks(594), Check.NONE);
        for (int wild : Check.WILD) {
            Check.due("ticks(" + wild + ")", x.ticks(wild), Check.NONE);
        }
        Check.due("desk(2) after refusals", x.desk(2), 7);
        Check.due("ticks(593)", x.ticks(593), 600);
        Check.due("ticks(1) at 600", x.ticks(1), Check.NONE);
        Check.due("ticks(0) at 600", x.ticks(0), 600);
        Check.due("ticks(600) on a new one", new ShareKeeper().ticks(600), 600);
    }

    private static void deskNumbers() {
        ShareKeeper x = new ShareKeeper();
        x.service();
        x.service();
        x.source(0, 1, 100);
        x.promise(0, 5, 500, true);
        x.promise(0, 5, 500, false);
        x.promise(1, 5, 500, false);
        x.ticks(4);
        x.count(0, 0, 4, 1, 1);
        x.count(0, 1, 4, 1, 1);
        x.count(0, 1, 4, 1, 1);
        x.count(0, 0, 99, 1, 1);
        x.count(0, 0, 0, 1, 1);
        x.count(0, 2, 5, 1, 1);
        x.count(0, 3, 2, 1, 1);
        x.count(0, 4, 4, 100, 0);
        x.count(0, 0, -1, 1, 1);
        x.alarm(2, 5, 5, 1);
        for (int i = 0; i < 7; i++) {
            x.change(1, 1, 1);
        }
        for (int i = 0; i < 6; i++) {
            x.part(1);
        }
        int[] want = {2, 1, 4, 3, 2, 3, 1, 7, 6};
        for (int what = 0; what < want.length; what++) {
            Check.due("desk(" + what + ")", x.desk(what), want[what]);
        }
        Check.due("desk(9)", x.desk(9), Check.NONE);
        for (int wild : Check.WILD) {
            Check.due("desk(" + wild + ")", x.desk(wild), Check.NONE);
        }
    }
}

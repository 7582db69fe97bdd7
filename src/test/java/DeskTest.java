/** Promises 1 to 3, 5 and 23, and what the document says of SERVICES, SOURCES, NOW and the 512 calls. */
public final class DeskTest {
    public static void main(String[] args) {
        lastOf512Calls();
        allFull();
        newObject();
        nothingIsTold();
        objectsApart();
        services();
        servicesFull();
        sources();
        sourceOfNoService();
        lateOfSources();
        mostOfSources();
        sourcesFull();
        sourcesFullInAll();
        ticks();
        ticksOfAnotherNumber();
        ticksBeyond();
        deskNumbers();
        deskAfterRefusals();
        deskOfAnotherWhat();
        Check.finish();
    }

    private static void lastOf512Calls() {
        Check.sentence("What it is", "at most 512 calls after it has been made");
        ShareKeeper x = new ShareKeeper();
        for (int call = 1; call < 512; call++) {
            Check.due("call " + call + ", ticks(1)", x.ticks(1), call);
        }
        Check.due("call 512, desk(2)", x.desk(2), 511);
    }

    /** Every limit reached on one object, with calls to spare for what it then answers. */
    private static void allFull() {
        Check.sentence("What it is", "at most 512 calls after it has been made");
        ShareKeeper x = new ShareKeeper();
        for (int i = 0; i < 40; i++) {
            x.service();
            x.source(i % 8, 60, 1000);
            x.promise(i % 8, 200, 900, i % 2 == 0);
            x.alarm(i % 8, 200, 200, 1);
            x.change(i % 12, 0, 1);
        }
        for (int i = 0; i < 120; i++) {
            x.grace(i % 12, 300 + i, 300 + i);
        }
        for (int i = 0; i < 10; i++) {
            x.part(i);
        }
        x.ticks(600);
        for (int i = 0; i < 100; i++) {
            x.count(15, 100 + i, 600, 9, 1);
        }
        Check.deskDue(x, 8, 16, 600, 12, 100, 0, 8, 40, 10);
        Check.due("sum(7, 0, 600, 1)", x.sum(7, 0, 600, 1), 100);
        Check.due("rings(7, 600)", x.rings(7, 600), 1);
        Check.due("soonest(7, 300, 10, 1)", x.soonest(7, 300, 10, 1), 30);
        Check.due("look(39, 1)", x.look(39, 1), 3);
        Check.due("span(7, 600, 7)", x.span(7, 600, 7), 100);
        Check.due("broken(7, 0)", x.broken(7, 0), Check.NONE);
        Check.due("made(9, 10, 0)", x.made(9, 10, 0), 9);
    }

    private static void newObject() {
        Check.sentence("Promise 1", "NOW is 0.");
        ShareKeeper x = new ShareKeeper();
        Check.due("desk(2)", x.desk(2), 0);
        Check.due("ticks(0)", x.ticks(0), 0);
        Check.due("ticks(1)", x.ticks(1), 1);
        ShareKeeper y = new ShareKeeper();
        y.service();
        y.source(0, 0, 1);
        Check.due("a count of tick 1", y.count(0, 0, 1, 1, 0), 3);
        Check.due("a count of tick 0", y.count(0, 0, 0, 1, 0), 0);
    }

    private static void nothingIsTold() {
        Check.sentence("Promise 1", "Nothing is told");
        ShareKeeper x = new ShareKeeper();
        Check.deskDue(x, 0, 0, 0, 0, 0, 0, 0, 0, 0);
        Check.due("source(0, 0, 1)", x.source(0, 0, 1), Check.NONE);
        Check.due("count(0, 0, 0, 0, 0)", x.count(0, 0, 0, 0, 0), 1);
        Check.due("promise(0, 1, 0, true)", x.promise(0, 1, 0, true), Check.NONE);
        Check.due("grace(0, 1, 1)", x.grace(0, 1, 1), false);
        Check.due("sum(0, 0, 0, 0)", x.sum(0, 0, 0, 0), Check.NONE);
        Check.noSpan(x, 0, 0, 0);
        Check.due("broken(0, 0)", x.broken(0, 0), Check.NONE);
        Check.due("made(0, 1, 0)", x.made(0, 1, 0), Check.NONE);
        Check.due("alarm(0, 1, 1, 1)", x.alarm(0, 1, 1, 1), Check.NONE);
        Check.due("rings(0, 0)", x.rings(0, 0), Check.NONE);
        Check.due("soonest(0, 0, 10, 0)", x.soonest(0, 0, 10, 0), Check.NONE);
        Check.due("best(0, 0, 10, 10)", x.best(0, 0, 10, 10), Check.NONE);
        Check.due("change(0, 0, 0)", x.change(0, 0, 0), Check.NONE);
        Check.due("let(0)", x.let(0), false);
        Check.due("settle(0, 0)", x.settle(0, 0), false);
        Check.due("plan(0)", x.plan(0), Check.NONE);
        Check.due("planned(0)", x.planned(0), Check.NONE);
        Check.due("look(0, 0)", x.look(0, 0), Check.NONE);
    }

    private static void objectsApart() {
        Check.sentence("Promise 1", "Nothing is told");
        ShareKeeper x = new ShareKeeper();
        x.service();
        x.source(0, 0, 9);
        x.promise(0, 1, 0, true);
        x.alarm(0, 1, 1, 1);
        x.change(0, 0, 1);
        x.plan(0);
        x.part(1);
        x.count(0, 0, 0, 1, 1);
        x.count(0, 0, 0, 1, 1);
        x.ticks(5);
        ShareKeeper y = new ShareKeeper();
        Check.deskDue(y, 0, 0, 0, 0, 0, 0, 0, 0, 0);
        Check.due("planned(0)", y.planned(0), Check.NONE);
        Check.deskDue(x, 1, 1, 5, 1, 1, 1, 1, 1, 1);
    }

    private static void services() {
        Check.sentence("Promise 2", "A SERVICE more: its number");
        ShareKeeper x = new ShareKeeper();
        for (int i = 0; i < 8; i++) {
            Check.due("not yet: sum(" + i + ", 0, 0, 0)", x.sum(i, 0, 0, 0), Check.NONE);
            Check.due("service()", x.service(), i);
            Check.due("now: sum(" + i + ", 0, 0, 0)", x.sum(i, 0, 0, 0), 0);
            Check.due("desk(0)", x.desk(0), i + 1);
        }
    }

    private static void servicesFull() {
        Check.sentence("Terms 1, Promise 2", "SERVICES, 8 at most; NONE: 8 are there");
        ShareKeeper x = new ShareKeeper();
        for (int i = 0; i < 7; i++) {
            x.service();
        }
        Check.due("the 8th", x.service(), 7);
        Check.due("the 9th", x.service(), Check.NONE);
        Check.due("once more", x.service(), Check.NONE);
        Check.due("8 are left", x.desk(0), 8);
        Check.due("the last takes a SOURCE", x.source(7, 0, 1), 0);
        Check.due("there is no 9th", x.source(8, 0, 1), Check.NONE);
    }

    private static void sources() {
        Check.sentence("Promise 3", "A SOURCE more: its number");
        ShareKeeper x = new ShareKeeper();
        x.service();
        x.service();
        Check.due("not yet", x.count(0, 0, 0, 0, 0), 1);
        Check.due("of one SERVICE", x.source(0, 3, 5), 0);
        Check.due("of another", x.source(1, 3, 5), 1);
        Check.due("of the first", x.source(0, 3, 5), 2);
        Check.due("desk(1)", x.desk(1), 3);
        Check.due("now it counts", x.count(2, 0, 0, 0, 0), 0);
        Check.due("there is no more", x.count(3, 0, 0, 0, 0), 1);
    }

    private static void sourceOfNoService() {
        Check.sentence("Promise 3", "NONE: no such SERVICE");
        ShareKeeper x = new ShareKeeper();
        Check.due("without a SERVICE", x.source(0, 0, 1), Check.NONE);
        x.service();
        x.service();
        Check.none("source(s, 0, 1)", s -> x.source(s, 0, 1), -1, 2, 3, 8);
        Check.due("none came", x.desk(1), 0);
        Check.due("the last SERVICE", x.source(1, 0, 1), 0);
    }

    private static void lateOfSources() {
        Check.sentence("Terms 1, Promise 3", "LATE ticks (0 .. 60); other numbers");
        ShareKeeper x = new ShareKeeper();
        x.service();
        Check.none("source(0, late, 1)", late -> x.source(0, late, 1), -1, 61);
        Check.due("none came", x.desk(1), 0);
        Check.due("late 0", x.source(0, 0, 1), 0);
        Check.due("late 1", x.source(0, 1, 1), 1);
        Check.due("late 59", x.source(0, 59, 1), 2);
        Check.due("late 60", x.source(0, 60, 1), 3);
    }

    private static void mostOfSources() {
        Check.sentence("Terms 1, Promise 3", "MOST asks (1 .. 1000); other numbers");
        ShareKeeper x = new ShareKeeper();
        x.service();
        Check.none("source(0, 0, most)", most -> x.source(0, 0, most), -1, 0, 1001);
        Check.due("none came", x.desk(1), 0);
        Check.due("nothing may come", x.sum(0, 0, 600, 2), 0);
        Check.due("most 1", x.source(0, 0, 1), 0);
        Check.due("most 1000", x.source(0, 0, 1000), 1);
        Check.due("most 999", x.source(0, 0, 999), 2);
        Check.due("they may come", x.sum(0, 0, 0, 2), 2000);
    }

    private static void sourcesFull() {
        Check.sentence("Terms 1, Promise 3", "SOURCES, 16 at most; NONE: 16 are there");
        ShareKeeper x = new ShareKeeper();
        x.service();
        x.service();
        for (int i = 0; i < 15; i++) {
            Check.due("source(0, 0, 1)", x.source(0, 0, 1), i);
        }
        Check.due("the 16th", x.source(0, 0, 1), 15);
        Check.due("the 17th", x.source(0, 0, 1), Check.NONE);
        Check.due("nor of another SERVICE", x.source(1, 0, 1), Check.NONE);
        Check.due("16 are left", x.desk(1), 16);
        Check.due("the last counts", x.count(15, 0, 0, 1, 0), 0);
        Check.due("there is no 17th", x.count(16, 0, 0, 1, 0), 1);
        Check.due("the 17th may send nothing", x.sum(0, 0, 0, 2), 15);
        Check.due("nor to another SERVICE", x.sum(1, 0, 600, 2), 0);
    }

    private static void sourcesFullInAll() {
        Check.sentence("Terms 1", "SOURCES, 16 at most, each of one SERVICE");
        ShareKeeper x = new ShareKeeper();
        for (int i = 0; i < 8; i++) {
            x.service();
        }
        for (int i = 0; i < 16; i++) {
            Check.due("source(" + i % 8 + ", 0, 1)", x.source(i % 8, 0, 1), i);
        }
        Check.due("the 17th", x.source(7, 0, 1), Check.NONE);
    }

    private static void ticks() {
        Check.sentence("Promise 5", "NOW grows by n (0 .. 600): NOW");
        Check.due("ticks(600) at 0", new ShareKeeper().ticks(600), 600);
        Check.due("ticks(599) at 0", new ShareKeeper().ticks(599), 599);
        ShareKeeper x = new ShareKeeper();
        Check.due("ticks(0) at 0", x.ticks(0), 0);
        Check.due("ticks(1)", x.ticks(1), 1);
        Check.due("ticks(7)", x.ticks(7), 8);
        Check.due("ticks(0) at 8", x.ticks(0), 8);
        Check.due("desk(2)", x.desk(2), 8);
        Check.due("ticks(592)", x.ticks(592), 600);
        Check.due("ticks(0) at 600", x.ticks(0), 600);
    }

    private static void ticksOfAnotherNumber() {
        Check.sentence("Promise 5", "NONE: another n");
        ShareKeeper x = new ShareKeeper();
        Check.none("ticks(n) at 0", n -> x.ticks(n), -1, 601);
        Check.due("NOW is left", x.desk(2), 0);
        x.ticks(300);
        Check.none("ticks(n) at 300", n -> x.ticks(n), -1, -300, -301, 601);
        Check.due("NOW is left", x.desk(2), 300);
    }

    private static void ticksBeyond() {
        Check.sentence("Terms 1, Promise 5", "600 at most; NONE: beyond 600");
        ShareKeeper x = new ShareKeeper();
        x.ticks(1);
        Check.due("ticks(600) at 1", x.ticks(600), Check.NONE);
        Check.due("NOW is left", x.desk(2), 1);
        Check.due("ticks(598)", x.ticks(598), 599);
        Check.due("ticks(2) at 599", x.ticks(2), Check.NONE);
        Check.due("NOW is left", x.desk(2), 599);
        Check.due("ticks(1) at 599", x.ticks(1), 600);
        Check.none("ticks(n) at 600", n -> x.ticks(n), 1, 600, 601);
        Check.due("NOW is left", x.desk(2), 600);
    }

    private static void deskNumbers() {
        Check.sentence("Promise 23", "0: SERVICES .. 8: parts that wait");
        ShareKeeper x = new ShareKeeper();
        x.service();
        x.service();
        x.source(0, 1, 100);
        x.promise(0, 5, 500, true);
        x.promise(0, 5, 500, false);
        x.promise(1, 5, 500, false);
        x.ticks(9);
        for (int i = 0; i < 8; i++) {
            x.count(0, i, 9, 1, 1);
        }
        for (int i = 0; i < 5; i++) {
            x.count(0, i, 9, 1, 1);
        }
        x.alarm(2, 5, 5, 1);
        x.alarm(2, 5, 5, 1);
        x.alarm(2, 5, 5, 1);
        x.alarm(2, 5, 5, 1);
        for (int i = 0; i < 7; i++) {
            x.change(1, 1, 1);
        }
        for (int i = 0; i < 6; i++) {
            x.part(1);
        }
        Check.deskDue(x, 2, 1, 9, 3, 8, 5, 4, 7, 6);
        x.let(0);
        x.made(1, 1, 0);
        Check.deskDue(x, 2, 1, 9, 3, 8, 5, 4, 7, 0);
    }

    private static void deskAfterRefusals() {
        Check.sentence("Promise 23", "4: COUNTS taken, 5: those AGAIN");
        ShareKeeper x = new ShareKeeper();
        x.service();
        x.source(0, 1, 100);
        x.ticks(4);
        x.count(0, 0, 4, 1, 1);
        Check.deskDue(x, 1, 1, 4, 0, 1, 0);
        Check.due("why 1", x.count(0, 0, -1, 1, 1), 1);
        Check.due("why 3", x.count(0, 1, 5, 1, 1), 3);
        Check.due("why 4", x.count(0, 1, 2, 1, 1), 4);
        Check.due("why 5", x.count(0, 1, 4, 99, 0), 5);
        Check.deskDue(x, 1, 1, 4, 0, 1, 0);
        Check.due("why 2", x.count(0, 0, 4, 1, 1), 2);
        Check.deskDue(x, 1, 1, 4, 0, 1, 1);
        Check.due("why 2 once more", x.count(0, 0, 4, 1, 1), 2);
        Check.deskDue(x, 1, 1, 4, 0, 1, 2);
        Check.due("another", x.count(0, 1, 4, 0, 0), 0);
        Check.deskDue(x, 1, 1, 4, 0, 2, 2);
    }

    private static void deskOfAnotherWhat() {
        Check.sentence("Promise 23", "NONE for another what");
        ShareKeeper x = new ShareKeeper();
        x.service();
        Check.due("what 8", x.desk(8), 0);
        Check.none("desk(what)", what -> x.desk(what), -1, 9, 10);
    }
}

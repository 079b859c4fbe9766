/** Promises 21 to 23: send, order, run; and (a) of a TICK. */
public final class OrderTest {
    public static void main(String[] args) {
        send();
        order();
        run();
        whenTheyCome();
        lateFromNoneToNine();
        theyKeepWhenTheyAreDue();
        emptyByThen();
        asItIsThen();
        severalAtOnce();
        atItsFirstS();
        Due.end();
    }

    private static void send() {
        DarkBase b = new DarkBase();
        b.machine(0, 1);
        Due.is("empty", b.send(0, 0), DarkBase.NO);
        Due.program(b, 0, "wait");
        Due.is("machine", b.send(1, 0), DarkBase.BAD);
        Due.is("machine below", b.send(-1, 0), DarkBase.BAD);
        Due.is("program", b.send(0, 6), DarkBase.BAD);
        Due.is("program below", b.send(0, -1), DarkBase.BAD);
        for (int i = 0; i < 12; i++) {
            b.rule(4, i % 10);
            Due.is("send", b.send(0, 0), i % 10);
        }
        Due.is("full", b.send(0, 0), DarkBase.FULL);
        Due.is("empty comes first", b.send(0, 1), DarkBase.NO);
        Due.is("bad comes first", b.send(0, 6), DarkBase.BAD);
        Due.is("twelve", b.count(4), 12);
        b.run(1);
        Due.is("two came", b.count(4), 10);
        Due.is("room again", b.send(0, 0), 2);
        b = new DarkBase();
        b.machine(0, 1);
        Due.program(b, 0, "wait");
        for (int i = 0; i < 12; i++) {
            Due.is("all at 3", b.send(0, 0), 3);
        }
        b.run(3);
        Due.is("twelve still", b.send(0, 0), DarkBase.FULL);
        b.run(1);
        Due.is("all came", b.count(4), 0);
        Due.is("room for the first", b.send(0, 0), 7);
    }

    private static void order() {
        DarkBase b = new DarkBase();
        b.machine(0, 1);
        b.machine(0, 2);
        Due.program(b, 4, "wait");
        Due.program(b, 5, "wait");
        b.rule(4, 5);
        b.send(0, 4);
        b.rule(4, 1);
        b.send(1, 5);
        b.rule(4, 9);
        b.send(1, 4);
        int[][] due = {{0, 4, 5}, {1, 5, 1}, {1, 4, 9}};
        for (int i = 0; i < 3; i++) {
            for (int what = 0; what < 3; what++) {
                Due.is("order", b.order(i, what), due[i][what]);
            }
        }
        Due.is("not so many", b.order(3, 0), DarkBase.NONE);
        Due.is("far from so many", b.order(Integer.MAX_VALUE, 2), DarkBase.NONE);
        Due.is("i below", b.order(-1, 0), DarkBase.BAD);
        Due.is("what", b.order(0, 3), DarkBase.BAD);
        Due.is("what below", b.order(0, -1), DarkBase.BAD);
        Due.is("bad comes first", b.order(3, 3), DarkBase.BAD);
        b.run(2);
        Due.is("the first stays", b.order(0, 2), 5);
        Due.is("the others move up", b.order(1, 2), 9);
        Due.is("two", b.order(2, 2), DarkBase.NONE);
    }

    private static void run() {
        DarkBase b = new DarkBase();
        Due.is("below", b.run(0), DarkBase.BAD);
        Due.is("above", b.run(31), DarkBase.BAD);
        Due.is("far below", b.run(Integer.MIN_VALUE), DarkBase.BAD);
        Due.is("one", b.run(1), 1);
        for (int i = 0; i < 66; i++) {
            b.run(30);
        }
        Due.is("tick", b.base(0), 1981);
        Due.is("above 2000", b.run(20), DarkBase.FULL);
        Due.is("stays", b.base(0), 1981);
        Due.is("2000", b.run(19), 2000);
        Due.is("no more", b.run(1), DarkBase.FULL);
        Due.is("bad comes first", b.run(31), DarkBase.BAD);
    }

    private static void whenTheyCome() {
        DarkBase b = new DarkBase();
        b.machine(0, 1);
        Due.program(b, 0, "while 1{wait}");
        b.rule(4, 2);
        Due.is("sent", b.send(0, 0), 2);
        b.rule(4, 9);
        b.run(2);
        Due.is("not yet", b.has(0, 6), DarkBase.NONE);
        b.run(1);
        Due.is("now", b.has(0, 6), 0);
        Due.is("none on its way", b.count(4), 0);
        b.tune(0, 1, 100);
        Due.program(b, 1, "wait");
        b.rule(4, 0);
        Due.is("to a broken one", b.send(0, 1), 3);
        b.run(3);
        Due.is("it has it, and does not run it", b.has(0, 6), 1);
        b.tune(0, 1, 99);
        b.tune(0, 0, 0);
        b.rule(0, 1);
        b.run(3);
        Due.is("none without charge", b.has(0, 6), 1);
        b.tune(0, 0, 1);
        b.run(1);
        Due.is("it waits", b.has(0, 6), 1);
        b.run(1);
        Due.is("it is over", b.has(0, 6), DarkBase.NONE);
    }

    private static void lateFromNoneToNine() {
        for (int late = 0; late <= 9; late++) {
            DarkBase b = new DarkBase();
            b.machine(0, 1);
            Due.program(b, 3, "while 1{wait}");
            b.run(2);
            b.rule(4, late);
            Due.is("sent", b.send(0, 3), 2 + late);
            Due.is("the tick at which it comes", b.order(0, 2), 2 + late);
            if (late > 0) {
                b.run(late);
            }
            Due.is("still on its way", b.count(4), 1);
            Due.is("not yet", b.has(0, 6), DarkBase.NONE);
            b.run(1);
            Due.is("it came", b.has(0, 6), 3);
            Due.is("none on its way", b.order(0, 0), DarkBase.NONE);
        }
    }

    /** ORDERS and REPORTS on their way keep when they are due, whatever LATE becomes. */
    private static void theyKeepWhenTheyAreDue() {
        DarkBase b = new DarkBase();
        b.machine(0, 1);
        b.machine(0, 9);
        Due.program(b, 0, "while 1{wait}");
        b.rule(4, 4);
        b.send(0, 0);
        b.run(1);
        b.rule(4, 0);
        b.send(1, 0);
        Due.is("in the order in which they were sent", b.order(0, 2), 4);
        Due.is("not in that in which they come", b.order(1, 2), 1);
        b.run(1);
        Due.is("at once", b.has(1, 6), 0);
        Due.is("a report at once", b.map(1, 3), 1);
        b.rule(4, 9);
        b.run(2);
        Due.is("4 is not yet", b.has(0, 6), DarkBase.NONE);
        Due.is("an older one has not come yet", b.map(1, 3), 1);
        b.run(1);
        Due.is("4 is now", b.has(0, 6), 0);
        Due.is("the older one came", b.map(1, 3), 0);
    }

    /** An ORDER of a PROGRAM that is empty by then leaves its MACHINE none, whatever it ran. */
    private static void emptyByThen() {
        for (int empty = 0; empty < 6; empty++) {
            DarkBase b = new DarkBase();
            b.rule(4, 0);
            b.machine(0, 1);
            for (int p = 0; p < 6; p++) {
                Due.program(b, p, "while 1{wait}");
            }
            b.send(0, (empty + 1) % 6);
            b.run(1);
            Due.is("it runs", b.has(0, 6), (empty + 1) % 6);
            b.send(0, empty);
            Due.is("a fault", Due.program(b, empty, "while 1{wait"), -112);
            Due.is("it runs on", b.has(0, 6), (empty + 1) % 6);
            b.run(1);
            Due.is("none", b.has(0, 6), DarkBase.NONE);
            Due.is("the order is gone", b.count(4), 0);
            Due.is("five are told", b.count(3), 5);
        }
    }

    private static void asItIsThen() {
        DarkBase b = new DarkBase();
        b.machine(0, 1);
        b.machine(0, 3);
        Due.program(b, 0, "wait");
        Due.program(b, 1, "while 1{wait}");
        b.rule(4, 0);
        b.send(1, 1);
        b.rule(4, 2);
        b.send(0, 0);
        b.send(1, 0);
        Due.program(b, 0, "while 1{wait wait}");
        b.run(8);
        Due.is("the new one", b.has(0, 6), 0);
        b.send(0, 0);
        b.rule(4, 0);
        b.send(1, 1);
        b.run(1);
        Due.program(b, 0, "fault");
        Due.is("lost", b.has(0, 6), DarkBase.NONE);
        Due.is("still on its way", b.count(4), 1);
        b.rule(4, 1);
        b.send(0, 1);
        b.run(1);
        Due.is("none yet", b.has(0, 6), DarkBase.NONE);
        b.run(1);
        Due.is("the empty one is none; the later one is begun", b.has(0, 6), 1);
        b.rule(4, 0);
        Due.program(b, 2, "wait");
        b.send(0, 2);
        Due.program(b, 2, "fault");
        b.run(1);
        Due.is("an empty one ends what it ran", b.has(0, 6), DarkBase.NONE);
    }

    /** Also if it is the PROGRAM that the MACHINE runs, and amid its repeats. */
    private static void atItsFirstS() {
        DarkBase b = new DarkBase();
        b.rule(4, 0);
        b.machine(1, 7);
        Due.order(b, 0, 0, "wait scoop repeat 2{wait}drop");
        b.run(1);
        b.send(0, 0);
        b.run(1);
        Due.is("it waits once more", b.has(0, 4), 0);
        b.run(2);
        Due.is("then it scoops, and waits", b.has(0, 4), 5);
        b.send(0, 0);
        b.run(4);
        Due.is("wait, scoop, and two waits", b.has(0, 4), 10);
        b.run(1);
        Due.is("then it drops", b.has(0, 4), 0);
    }

    private static void severalAtOnce() {
        DarkBase b = new DarkBase();
        b.machine(0, 7);
        Due.program(b, 0, "go 0 0");
        Due.program(b, 1, "go 5 3");
        b.send(0, 0);
        b.send(0, 1);
        b.run(4);
        Due.is("the later one", b.has(0, 6), 1);
        Due.is("right", b.has(0, 1), 8);
        b.rule(4, 0);
        b.send(0, 1);
        b.run(1);
        Due.is("begun anew", b.has(0, 1), 9);
    }
}

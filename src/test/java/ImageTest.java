/** Promises 34 and 35: keep, back; and 39: count. An object that came back is held against one that never left. */
public final class ImageTest {
    public static void main(String[] args) {
        none();
        allIsBack();
        againAndAgain();
        anotherImage();
        imageOfWhatIsBack();
        notWhatAnImageLeavesOut();
        loadsAndWorks();
        shedAndHarm();
        programs();
        reportsAndOrders();
        cargo();
        count();
        mostReports();
        Due.end();
    }

    private static void none() {
        DarkBase b = new DarkBase();
        Due.is("none", b.back(), DarkBase.NO);
        b.run(3);
        Due.is("none yet", b.back(), DarkBase.NO);
        Due.is("keep tells the tick", b.keep(), 3);
        b.run(4);
        Due.is("back tells the tick then", b.back(), 3);
        Due.is("tick", b.base(0), 3);
    }

    /** 12 CELLS, with something of all that an IMAGE keeps. */
    private static DarkBase full() {
        DarkBase b = new DarkBase();
        b.ground(4, 3);
        b.rule(4, 5);
        b.rule(0, 7);
        b.rule(1, 6);
        b.rule(3, 19);
        b.load(9, 4);
        b.load(8, 3);
        b.work(2, 3, 4, 0);
        b.work(1, 1, 9, 1);
        b.work(3, 0, 1, 0);
        b.cell(7, 1);
        b.cell(9, 2);
        b.put(9, 1, 30);
        b.store(0, 11);
        b.store(1, 12);
        b.store(2, 13);
        b.machine(2, 1);
        b.machine(1, 9);
        b.machine(3, 2);
        b.tune(1, 1, 50);
        Due.program(b, 0, "repeat 3{fuse go 2 2 scoop go 1 0}");
        Due.program(b, 1, "while c>9{scoop drop wait}");
        Due.program(b, 2, "mend until s repeat 9{wait mend}");
        b.send(0, 0);
        b.send(1, 1);
        b.send(2, 2);
        b.land(6, 3);
        b.run(9);
        b.send(1, 2);
        b.run(2);
        return b;
    }

    private static void spoil(DarkBase b) {
        b.run(13);
        b.land(3, 9);
        b.ground(10, 8);
        b.load(3, 3);
        b.clear();
        b.work(1, 50, 0, 0);
        b.work(9, 50, 20, 0);
        b.work(5, 7, 3, 3);
        b.machine(0, 70);
        b.machine(1, 71);
        b.machine(1, 72);
        b.machine(1, 73);
        for (int p = 0; p < 6; p++) {
            Due.program(b, p, "wait");
            b.send(p % 4, p);
        }
        b.rule(0, 2);
        b.rule(1, 1);
        b.rule(2, 5000);
        b.rule(3, 55);
        b.rule(4, 8);
        b.store(0, 77);
        b.run(9);
    }

    private static void alike(String what, DarkBase b, DarkBase due) {
        State.of(b).same(what, State.of(due));
    }

    private static void allIsBack() {
        for (int later = 0; later <= 20; later += 10) {
            DarkBase b = full();
            Due.is("keep", b.keep(), 11);
            spoil(b);
            Due.is("back", b.back(), 11);
            DarkBase due = full();
            if (later > 0) {
                Due.is("goes on", b.run(later), due.run(later));
            }
            alike("back, and " + later + " on", b, due);
        }
    }

    private static void againAndAgain() {
        DarkBase b = full();
        b.keep();
        for (int n = 0; n < 3; n++) {
            spoil(b);
            Due.is("back again", b.back(), 11);
        }
        Due.is("and at once", b.back(), 11);
        alike("again and again", b, full());
    }

    private static void anotherImage() {
        DarkBase b = full();
        b.keep();
        b.run(5);
        Due.is("a new one", b.keep(), 16);
        spoil(b);
        Due.is("is the one that is kept", b.back(), 16);
        DarkBase due = full();
        due.run(5);
        alike("the newer image", b, due);
    }

    /** What goes on after back leaves THE IMAGE as it is. */
    private static void imageOfWhatIsBack() {
        DarkBase b = full();
        b.keep();
        b.back();
        b.put(5, 0, 3);
        b.tune(0, 0, 7);
        b.run(3);
        b.back();
        alike("not what was done behind back", b, full());
    }

    private static void notWhatAnImageLeavesOut() {
        DarkBase b = new DarkBase();
        b.sheet(0, 2);
        b.mark(0, 1, 5);
        b.tell(1);
        Due.tape(b, "wait");
        b.keep();
        b.mark(0, 1, 6);
        b.sheet(1, 3);
        b.tell(2);
        b.trim(2);
        b.back();
        Due.is("sheet 0", b.mark(0, 1, 0), 6);
        Due.is("sheet 1", b.mark(1, 2, 0), 0);
        Due.is("numbers that wait", b.count(7), 2);
        Due.is("the tape", b.count(8), 2);
        b.sheet(0, 1);
        b.check(1, 1);
        b.trim(0);
        b.back();
        Due.is("one place", b.mark(0, 1, 0), DarkBase.INDEX);
        Due.is("none wait", b.count(7), 0);
        Due.is("no tape", b.count(8), 0);
    }

    /** What comes behind back is numbered, and counts, as if all that came since keep had not been. */
    private static void loadsAndWorks() {
        DarkBase b = new DarkBase();
        b.rule(2, 10);
        b.load(9, 40);
        b.work(1, 3, 2, 0);
        b.keep();
        b.load(9, 99);
        b.work(4, 50, 20, 1);
        b.back();
        Due.is("load 1 again", b.load(9, 5), 1);
        Due.is("its own harm", b.night(1), 5);
        Due.is("its own bit", b.cut(1), 2);
        Due.is("work 1 again", b.work(1, 1, 20, 0), 1);
        b.rule(2, 100);
        Due.is("its own hours, power, gain, ahead", b.plan(2, 9), 100 - 36 + 20 - 1 + 20);
        Due.is("alone", b.planned(2, 9, 0), 1);
        b.keep();
        b.clear();
        b.work(2, 50, 1, 0);
        b.work(2, 50, 1, 1);
        Due.is("dear ones", b.planned(2, 9, 0), DarkBase.NONE);
        b.back();
        Due.is("the cheap ones are back", b.plan(2, 9), 103);
        Due.is("and what each is", b.planned(5, 9, 1), 0);
        Due.is("with both", b.plan(5, 9), 100 + (10 - 19) + (30 - 21) + 3 * (32 - 18));
    }

    private static void shedAndHarm() {
        DarkBase b = new DarkBase();
        b.rule(3, 0);
        b.rule(2, 12);
        b.load(5, 2);
        b.load(10, 3);
        b.run(1);
        b.keep();
        Due.is("0 is shed", b.base(5), 1);
        b.run(1);
        Due.is("both are", b.base(5), 3);
        Due.is("harm", b.base(4), 2 + 5);
        b.back();
        Due.is("0 again", b.base(5), 1);
        Due.is("harm again", b.base(4), 2);
        Due.is("bank again", b.base(2), 2);
    }

    /** A MACHINE goes on amid its repeats, and PROGRAMS that came or went since keep are as they were. */
    private static void programs() {
        DarkBase b = new DarkBase();
        b.rule(4, 0);
        b.machine(1, 7);
        b.put(7, 0, 900);
        Due.program(b, 1, "wait");
        Due.order(b, 0, 0, "repeat 2{repeat 2{wait}scoop}drop");
        b.run(4);
        b.keep();
        b.run(5);
        Due.is("over", b.has(0, 6), DarkBase.NONE);
        Due.program(b, 0, "fault");
        Due.program(b, 1, "fault");
        Due.program(b, 2, "drop");
        Due.is("one", b.count(3), 1);
        b.back();
        Due.is("two", b.count(3), 2);
        Due.is("0 again", b.has(0, 6), 0);
        Due.is("2 is empty again", b.send(0, 2), DarkBase.NO);
        Due.is("1 is not", b.send(0, 1), 4);
        b.back();
        b.run(1);
        Due.is("one wait was left", b.has(0, 4), 5);
        b.run(1);
        Due.is("and a scoop", b.has(0, 4), 10);
        b.run(1);
        Due.is("and the drop", b.has(0, 4), 0);
    }

    private static void reportsAndOrders() {
        DarkBase b = new DarkBase();
        b.machine(0, 7);
        Due.program(b, 0, "while 1{wait}");
        b.send(0, 0);
        b.run(2);
        b.keep();
        b.put(7, 0, 1);
        b.run(9);
        Due.is("the latest", b.map(7, 3), 7);
        Due.is("what it tells", b.map(7, 1), 1);
        b.back();
        Due.is("the map as it was", b.map(7, 3), DarkBase.NONE);
        Due.is("reports on their way", b.count(5), 2);
        Due.is("orders on their way", b.order(0, 2), 3);
        Due.is("none yet", b.has(0, 6), DarkBase.NONE);
        b.run(2);
        Due.is("the order came", b.has(0, 6), 0);
        Due.is("the report came", b.map(7, 3), 0);
        Due.is("and tells what was", b.map(7, 1), 20);
    }

    private static void cargo() {
        DarkBase b = new DarkBase();
        b.rule(4, 0);
        b.machine(1, 7);
        b.cell(7, 2);
        b.put(7, 1, 9);
        Due.order(b, 0, 0, "scoop");
        b.run(1);
        b.keep();
        b.cell(7, 0);
        Due.order(b, 0, 0, "drop scoop");
        b.run(2);
        Due.is("dust", b.has(0, 5), 0);
        b.back();
        Due.is("ice again", b.has(0, 5), 1);
        Due.is("no dust", b.kilos(1), 0);
        Due.is("kilos", b.kilos(5), 460);
    }

    private static void count() {
        DarkBase b = full();
        b.tell(4);
        b.tell(4);
        b.feed(1, 2, 3);
        int[] due = {12, 3, 2, 3, 1, 15, 3, 2, 12};
        for (int what = 0; what < due.length; what++) {
            Due.is("count " + what, b.count(what), due[what]);
        }
        Due.is("what", b.count(9), DarkBase.BAD);
        Due.is("what below", b.count(-1), DarkBase.BAD);
    }

    private static void mostReports() {
        DarkBase b = new DarkBase();
        for (int i = 0; i < 5; i++) {
            b.machine(0, i);
        }
        b.rule(4, 9);
        b.run(30);
        Due.is("as many reports as can be", b.count(5), 45);
        for (int i = 0; i < 5; i++) {
            Due.is("the map is nine behind", b.map(i, 3), 20);
        }
        b.rule(4, 0);
        b.run(9);
        Due.is("none on their way", b.count(5), 0);
        Due.is("at once", b.map(4, 3), 38);
    }
}

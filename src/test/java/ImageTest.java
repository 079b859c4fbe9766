/** Promises 34 and 35: keep, back; and 39: count. */
public final class ImageTest {
    public static void main(String[] args) {
        none();
        allIsBack();
        notWhatAnImageLeavesOut();
        againAndAgain();
        cargo();
        count();
        Due.end();
    }

    private static void none() {
        DarkBase b = new DarkBase();
        Due.is("none", b.back(), DarkBase.NO);
        b.run(3);
        Due.is("keep", b.keep(), 3);
        b.run(4);
        Due.is("back", b.back(), 3);
        Due.is("tick", b.base(0), 3);
    }

    private static DarkBase full() {
        DarkBase b = new DarkBase();
        b.ground(5, 4);
        b.rule(4, 5);
        b.rule(0, 7);
        b.rule(1, 6);
        b.rule(3, 9);
        b.load(9, 4);
        b.load(8, 3);
        b.work(2, 3, 4, 0);
        b.work(1, 1, 9, 1);
        b.cell(7, 1);
        b.cell(8, 2);
        b.put(8, 1, 30);
        b.store(0, 11);
        b.store(1, 12);
        b.store(2, 13);
        b.machine(2, 1);
        b.machine(1, 8);
        b.machine(3, 2);
        b.tune(1, 1, 50);
        Due.program(b, 0, "repeat 3{fuse go 2 3 scoop go 1 0}");
        Due.program(b, 1, "while c>9{scoop drop wait}");
        Due.program(b, 2, "mend until s repeat 9{wait mend}");
        b.send(0, 0);
        b.send(1, 1);
        b.send(2, 2);
        b.land(14, 3);
        b.run(9);
        b.send(1, 2);
        b.run(2);
        return b;
    }

    /** All that can be asked, as one row. */
    private static long[] all(DarkBase b) {
        long[] row = new long[2000];
        int n = 0;
        for (int what = 0; what < 9; what++) {
            row[n++] = b.base(what);
            row[n++] = what == 7 || what == 8 ? 0 : b.count(what);
            row[n++] = b.kilos(what);
        }
        for (int cell = 0; cell < 80; cell++) {
            for (int what = 0; what < 4; what++) {
                row[n++] = b.told(cell, what);
                row[n++] = b.map(cell, what);
            }
        }
        for (int i = 0; i < 12; i++) {
            for (int what = 0; what < 8; what++) {
                row[n++] = b.has(i, what);
                row[n++] = b.order(i, what);
            }
        }
        row[n++] = b.plan(8, 20000);
        row[n++] = b.cut(20);
        int[] rules = {1, 0, 0, 0, 0};
        for (int which = 0; which < 5; which++) {
            int was = b.rule(which, rules[which]);
            b.rule(which, was);
            row[n++] = was;
        }
        return row;
    }

    private static void same(String what, long[] got, long[] want) {
        for (int i = 0; i < got.length; i++) {
            Due.is(what + " " + i, got[i], want[i]);
        }
    }

    private static void spoil(DarkBase b) {
        b.run(13);
        b.land(3, 9);
        b.ground(10, 8);
        b.load(3, 3);
        b.clear();
        b.work(1, 0, 0, 0);
        b.machine(0, 70);
        for (int p = 0; p < 6; p++) {
            Due.program(b, p, "wait");
        }
        b.send(0, 0);
        b.rule(0, 2);
        b.rule(1, 1);
        b.rule(2, 5000);
        b.rule(3, 55);
        b.rule(4, 8);
        b.store(0, 77);
        b.run(5);
    }

    private static void allIsBack() {
        DarkBase b = full();
        long[] was = all(b);
        b.keep();
        b.run(20);
        long[] later = all(b);
        spoil(b);
        b.back();
        same("back", all(b), was);
        b.run(20);
        same("goes on alike", all(b), later);
    }

    private static void notWhatAnImageLeavesOut() {
        DarkBase b = new DarkBase();
        b.sheet(0, 2);
        b.mark(0, 1, 5);
        b.tell(1);
        Due.tape(b, "wait");
        b.keep();
        b.mark(0, 1, 6);
        b.sheet(1, 3);
        b.tell(2);
        b.trim(2);
        b.back();
        Due.is("sheet 0", b.mark(0, 1, 0), 6);
        Due.is("sheet 1", b.mark(1, 2, 0), 0);
        Due.is("numbers that wait", b.count(7), 2);
        Due.is("the tape", b.count(8), 2);
    }

    private static void againAndAgain() {
        DarkBase b = full();
        long[] was = all(b);
        b.keep();
        for (int n = 0; n < 3; n++) {
            spoil(b);
            Due.is("back", b.back(), 11);
            same("again", all(b), was);
        }
        b.run(5);
        long[] newer = all(b);
        Due.is("a new one", b.keep(), 16);
        spoil(b);
        b.back();
        same("the newer one", all(b), newer);
    }

    private static void cargo() {
        DarkBase b = new DarkBase();
        b.rule(4, 0);
        b.machine(1, 7);
        b.cell(7, 2);
        b.put(7, 1, 9);
        Due.order(b, 0, 0, "scoop");
        b.run(1);
        b.keep();
        b.cell(7, 0);
        Due.order(b, 0, 0, "drop scoop");
        b.run(2);
        Due.is("dust", b.has(0, 5), 0);
        b.back();
        Due.is("ice again", b.has(0, 5), 1);
        Due.is("no dust", b.kilos(1), 0);
        Due.is("kilos", b.kilos(5), 460);
    }

    private static void count() {
        DarkBase b = full();
        b.tell(4);
        b.tell(4);
        b.feed(1, 2, 3);
        int[] due = {20, 3, 2, 3, 1, 15, 2, 2, 12};
        for (int what = 0; what < due.length; what++) {
            Due.is("count " + what, b.count(what), due[what]);
        }
        Due.is("what", b.count(9), DarkBase.BAD);
        Due.is("what below", b.count(-1), DarkBase.BAD);
        b = new DarkBase();
        for (int i = 0; i < 5; i++) {
            b.machine(0, i);
        }
        b.rule(4, 9);
        b.run(30);
        Due.is("as many reports as can be", b.count(5), 45);
    }
}

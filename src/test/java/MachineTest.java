/** Promises 14 to 17: machine, is, tune, has. */
public final class MachineTest {
    public static void main(String[] args) {
        machine();
        noTwoOnOne();
        is();
        tune();
        has();
        Due.end();
    }

    private static void machine() {
        DarkBase b = new DarkBase();
        b.cell(3, 1);
        Due.is("kind", b.machine(4, 1), DarkBase.BAD);
        Due.is("kind below", b.machine(-1, 1), DarkBase.BAD);
        Due.is("cell", b.machine(0, 24), DarkBase.BAD);
        Due.is("cell below", b.machine(0, -1), DarkBase.BAD);
        Due.is("rock", b.machine(0, 3), DarkBase.NO);
        for (int i = 0; i < 5; i++) {
            Due.is("machine", b.machine(i % 4, 10 + i), i);
        }
        Due.is("one is there", b.machine(0, 12), DarkBase.NO);
        Due.is("a rock, and five", b.machine(0, 3), DarkBase.NO);
        Due.is("full", b.machine(0, 0), DarkBase.FULL);
        Due.is("bad comes first", b.machine(4, 12), DarkBase.BAD);
        Due.is("five", b.count(1), 5);
    }

    private static void noTwoOnOne() {
        DarkBase b = new DarkBase();
        Due.is("on the base", b.machine(0, 0), 0);
        Due.is("not two", b.machine(1, 0), DarkBase.NO);
        Due.is("on the last cell", b.machine(3, 23), 1);
        Due.is("not two", b.machine(3, 23), DarkBase.NO);
        b.cell(4, 2);
        b.cell(5, 3);
        Due.is("on a pit", b.machine(1, 4), 2);
        Due.is("on a road", b.machine(1, 5), 3);
        b.cell(6, 1);
        Due.is("not on a rock", b.machine(1, 6), DarkBase.NO);
        b.cell(6, 0);
        Due.is("when it is none", b.machine(1, 6), 4);
        Due.is("five at most", b.machine(1, 7), DarkBase.FULL);
    }

    private static void is() {
        DarkBase b = new DarkBase();
        int[][] due = {{1, 0, 0, 0}, {1, 1, 0, 0}, {1, 1, 1, 0}, {1, 0, 0, 1}};
        for (int kind = 0; kind < 4; kind++) {
            b.machine(kind, kind);
            for (int asked = 0; asked < 4; asked++) {
                Due.is("is " + kind + " " + asked, b.is(kind, asked), due[kind][asked]);
            }
        }
        Due.is("kind", b.is(0, 4), DarkBase.BAD);
        Due.is("kind below", b.is(0, -1), DarkBase.BAD);
        Due.is("machine", b.is(4, 0), DarkBase.BAD);
        Due.is("machine below", b.is(-1, 0), DarkBase.BAD);
    }

    private static void tune() {
        DarkBase b = new DarkBase();
        b.machine(0, 1);
        Due.is("charge", b.tune(0, 0, 100), 50);
        Due.is("charge again", b.tune(0, 0, 0), 100);
        Due.is("wear", b.tune(0, 1, 99), 0);
        Due.is("not broken", b.has(0, 7), 0);
        Due.is("wear again", b.tune(0, 1, 100), 99);
        Due.is("broken", b.has(0, 7), 1);
        Due.is("charge stays", b.has(0, 2), 0);
        Due.is("below", b.tune(0, 0, -1), DarkBase.BAD);
        Due.is("above", b.tune(0, 1, 101), DarkBase.BAD);
        Due.is("what", b.tune(0, 2, 1), DarkBase.BAD);
        Due.is("what below", b.tune(0, -1, 1), DarkBase.BAD);
        Due.is("machine", b.tune(1, 0, 1), DarkBase.BAD);
        Due.is("machine below", b.tune(-1, 0, 1), DarkBase.BAD);
    }

    private static void has() {
        DarkBase b = new DarkBase();
        b.rule(4, 0);
        b.machine(2, 9);
        int[] first = {2, 9, 50, 0, 0, DarkBase.NONE, DarkBase.NONE, 0};
        for (int what = 0; what < first.length; what++) {
            Due.is("has " + what, b.has(0, what), first[what]);
        }
        Due.order(b, 0, 4, "scoop");
        b.run(1);
        int[] then = {2, 9, 50, 2, 5, 0, 4, 0};
        for (int what = 0; what < then.length; what++) {
            Due.is("has then " + what, b.has(0, what), then[what]);
        }
        b.run(1);
        Due.is("over", b.has(0, 6), DarkBase.NONE);
        Due.is("what", b.has(0, 8), DarkBase.BAD);
        Due.is("what below", b.has(0, -1), DarkBase.BAD);
        Due.is("machine", b.has(1, 0), DarkBase.BAD);
        Due.is("machine below", b.has(-1, 0), DarkBase.BAD);
    }
}

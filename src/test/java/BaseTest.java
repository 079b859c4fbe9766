/** Promises 10 to 13: store, rule, load, base. */
public final class BaseTest {
    public static void main(String[] args) {
        store();
        rule();
        load();
        base();
        shedding();
        cycle();
        Due.end();
    }

    private static void store() {
        DarkBase b = new DarkBase();
        for (int what = 0; what < 3; what++) {
            Due.is("store", b.store(what, 9999 - what), 0);
            Due.is("base tells it", b.base(6 + what), 9999 - what);
            Due.is("again", b.store(what, 0), 9999 - what);
            Due.is("below", b.store(what, -1), DarkBase.BAD);
            Due.is("above", b.store(what, 10000), DarkBase.BAD);
        }
        Due.is("what", b.store(3, 0), DarkBase.BAD);
        Due.is("what below", b.store(-1, 0), DarkBase.BAD);
    }

    private static void rule() {
        int[] first = {14, 14, 100, 10, 3};
        int[] least = {1, 0, 0, 0, 0};
        int[] most = {24, 24, 9999, 99, 9};
        DarkBase b = new DarkBase();
        for (int which = 0; which < 5; which++) {
            Due.is("below", b.rule(which, least[which] - 1), DarkBase.BAD);
            Due.is("above", b.rule(which, most[which] + 1), DarkBase.BAD);
            Due.is("least", b.rule(which, least[which]), first[which]);
            Due.is("most", b.rule(which, most[which]), least[which]);
            Due.is("as it was", b.rule(which, most[which]), most[which]);
        }
        Due.is("which", b.rule(5, 1), DarkBase.BAD);
        Due.is("which below", b.rule(-1, 1), DarkBase.BAD);
        Due.is("far off", b.rule(Integer.MIN_VALUE, 1), DarkBase.BAD);
    }

    private static void load() {
        DarkBase b = new DarkBase();
        Due.is("power below", b.load(0, 1), DarkBase.BAD);
        Due.is("power above", b.load(51, 1), DarkBase.BAD);
        Due.is("harm below", b.load(1, 0), DarkBase.BAD);
        Due.is("harm above", b.load(1, 100), DarkBase.BAD);
        for (int i = 0; i < 8; i++) {
            Due.is("load", b.load(i % 2 == 0 ? 1 : 50, i % 2 == 0 ? 99 : 1), i);
        }
        Due.is("full", b.load(1, 1), DarkBase.FULL);
        Due.is("bad comes first", b.load(0, 1), DarkBase.BAD);
        Due.is("eight", b.count(2), 8);
    }

    private static void base() {
        DarkBase b = new DarkBase();
        b.rule(1, 1);
        b.rule(0, 2);
        b.rule(3, 7);
        b.store(0, 4);
        b.store(1, 5);
        b.store(2, 6);
        b.run(2);
        int[] due = {2, 0, 114, 7, 0, 0, 4, 5, 6};
        for (int what = 0; what < due.length; what++) {
            Due.is("base " + what, b.base(what), due[what]);
        }
        Due.is("what", b.base(9), DarkBase.BAD);
        Due.is("what below", b.base(-1), DarkBase.BAD);
    }

    private static void shedding() {
        DarkBase b = new DarkBase();
        b.rule(3, 0);
        b.rule(2, 20);
        int[][] loads = {{10, 5}, {4, 2}, {6, 2}, {9, 9}};
        for (int[] load : loads) {
            b.load(load[0], load[1]);
        }
        b.run(1);
        Due.is("the least harm, the first of several", b.base(5), 6);
        Due.is("harm", b.base(4), 4);
        Due.is("bank", b.base(2), 1);
        b.run(1);
        Due.is("all", b.base(5), 15);
        Due.is("harm is added", b.base(4), 22);
        Due.is("bank stays", b.base(2), 1);
        b.rule(2, 29);
        b.run(1);
        Due.is("just enough", b.base(5), 0);
        Due.is("all paid", b.base(2), 0);
        Due.is("harm stays", b.base(4), 22);
        b.rule(2, 28);
        b.run(1);
        Due.is("one short", b.base(5), 2);
        Due.is("the rest", b.base(2), 3);
        b.rule(2, 9995);
        b.rule(3, 10);
        b.run(1);
        Due.is("9999 at most, and then the loads", b.base(2), 9970);
    }

    private static void cycle() {
        DarkBase b = new DarkBase();
        b.rule(0, 2);
        b.rule(1, 3);
        int[] light = {1, 1, 0, 0, 0, 1, 1, 0};
        int bank = 100;
        for (int t = 0; t < light.length; t++) {
            Due.is("light", b.base(1), light[t]);
            b.run(1);
            bank += 10 * light[t];
            Due.is("bank", b.base(2), bank);
        }
        b.rule(1, 0);
        for (int t = 0; t < 5; t++) {
            Due.is("always light", b.base(1), 1);
            b.run(1);
        }
    }
}

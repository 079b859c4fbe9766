/** Promises 10 to 13: store, rule, load, base. */
public final class BaseTest {
    public static void main(String[] args) {
        store();
        rule();
        load();
        base();
        shedding();
        leastHarmOfEach();
        allAreShed();
        cycle();
        cycleOfEachLength();
        bankIsFull();
        Due.end();
    }

    private static void store() {
        DarkBase b = new DarkBase();
        for (int what = 0; what < 3; what++) {
            Due.is("store", b.store(what, 9999 - what), 0);
            Due.is("base tells it", b.base(6 + what), 9999 - what);
            Due.is("again", b.store(what, 0), 9999 - what);
            Due.is("below", b.store(what, -1), DarkBase.BAD);
            Due.is("above", b.store(what, 10000), DarkBase.BAD);
        }
        Due.is("what", b.store(3, 0), DarkBase.BAD);
        Due.is("what below", b.store(-1, 0), DarkBase.BAD);
    }

    private static void rule() {
        int[] first = {14, 14, 100, 10, 3};
        int[] least = {1, 0, 0, 0, 0};
        int[] most = {24, 24, 9999, 99, 9};
        DarkBase b = new DarkBase();
        for (int which = 0; which < 5; which++) {
            Due.is("below", b.rule(which, least[which] - 1), DarkBase.BAD);
            Due.is("above", b.rule(which, most[which] + 1), DarkBase.BAD);
            Due.is("least", b.rule(which, least[which]), first[which]);
            Due.is("most", b.rule(which, most[which]), least[which]);
            Due.is("as it was", b.rule(which, most[which]), most[which]);
        }
        Due.is("which", b.rule(5, 1), DarkBase.BAD);
        Due.is("which below", b.rule(-1, 1), DarkBase.BAD);
        Due.is("far off", b.rule(Integer.MIN_VALUE, 1), DarkBase.BAD);
    }

    private static void load() {
        DarkBase b = new DarkBase();
        Due.is("power below", b.load(0, 1), DarkBase.BAD);
        Due.is("power above", b.load(51, 1), DarkBase.BAD);
        Due.is("harm below", b.load(1, 0), DarkBase.BAD);
        Due.is("harm above", b.load(1, 100), DarkBase.BAD);
        for (int i = 0; i < 8; i++) {
            Due.is("load", b.load(i % 2 == 0 ? 1 : 50, i % 2 == 0 ? 99 : 1), i);
        }
        Due.is("full", b.load(1, 1), DarkBase.FULL);
        Due.is("bad comes first", b.load(0, 1), DarkBase.BAD);
        Due.is("eight", b.count(2), 8);
    }

    private static void base() {
        DarkBase b = new DarkBase();
        b.rule(1, 1);
        b.rule(0, 2);
        b.rule(3, 7);
        b.store(0, 4);
        b.store(1, 5);
        b.store(2, 6);
        b.run(2);
        int[] due = {2, 0, 114, 7, 0, 0, 4, 5, 6};
        for (int what = 0; what < due.length; what++) {
            Due.is("base " + what, b.base(what), due[what]);
        }
        Due.is("what", b.base(9), DarkBase.BAD);
        Due.is("what below", b.base(-1), DarkBase.BAD);
    }

    private static void shedding() {
        DarkBase b = new DarkBase();
        b.rule(3, 0);
        b.rule(2, 20);
        int[][] loads = {{10, 5}, {4, 2}, {6, 2}, {9, 9}};
        for (int[] load : loads) {
            b.load(load[0], load[1]);
        }
        b.run(1);
        Due.is("the least harm, the first of several", b.base(5), 6);
        Due.is("harm", b.base(4), 4);
        Due.is("bank", b.base(2), 1);
        b.run(1);
        Due.is("all", b.base(5), 15);
        Due.is("harm is added", b.base(4), 22);
        Due.is("bank stays", b.base(2), 1);
        b.rule(2, 29);
        b.run(1);
        Due.is("just enough", b.base(5), 0);
        Due.is("all paid", b.base(2), 0);
        Due.is("harm stays", b.base(4), 22);
        b.rule(2, 28);
        b.run(1);
        Due.is("one short", b.base(5), 2);
        Due.is("the rest", b.base(2), 3);
        b.rule(2, 9995);
        b.rule(3, 10);
        b.run(1);
        Due.is("9999 at most, and then the loads", b.base(2), 9970);
    }

    /** Each LOAD in turn has the least HARM, or is the first of several that have. */
    private static void leastHarmOfEach() {
        for (int least = 0; least < 8; least++) {
            for (int alike = least; alike < 8; alike++) {
                DarkBase b = new DarkBase();
                b.rule(3, 0);
                b.rule(2, 39);
                for (int i = 0; i < 8; i++) {
                    b.load(5, i == least || i == alike ? 3 : 4 + i);
                }
                b.run(1);
                Due.is("one is shed", b.base(5), 1 << least);
                Due.is("its harm", b.base(4), 3);
                Due.is("the others are paid", b.base(2), 4);
            }
        }
    }

    private static void allAreShed() {
        DarkBase b = new DarkBase();
        b.rule(3, 0);
        b.rule(2, 49);
        for (int i = 0; i < 8; i++) {
            b.load(50, 99);
        }
        b.run(1);
        Due.is("all", b.base(5), 255);
        Due.is("all of their harm", b.base(4), 8 * 99);
        Due.is("the bank stays", b.base(2), 49);
        b.rule(2, 50);
        b.run(1);
        Due.is("all but the last", b.base(5), 127);
        Due.is("nothing is left", b.base(2), 0);
        b.run(1);
        Due.is("harm is added on and on", b.base(4), 23 * 99);
        b.rule(2, 400);
        b.run(1);
        Due.is("none in the latest tick", b.base(5), 0);
        Due.is("harm stays", b.base(4), 23 * 99);
        b = new DarkBase();
        b.rule(2, 0);
        b.rule(3, 0);
        b.run(1);
        Due.is("no loads, none shed", b.base(5), 0);
        Due.is("no harm", b.base(4), 0);
    }

    /** TICK t is in LIGHT, if t % (LIGHT and DARK) is below LIGHT: at the edges of rules and of cycles. */
    private static void cycleOfEachLength() {
        int[][] rules = {{14, 14}, {1, 0}, {24, 24}, {1, 24}, {24, 0}, {1, 1}, {5, 2}};
        for (int[] rule : rules) {
            DarkBase b = new DarkBase();
            b.rule(0, rule[0]);
            b.rule(1, rule[1]);
            b.rule(2, 0);
            b.rule(3, 1);
            int bank = 0;
            for (int t = 0; t < 100; t++) {
                int due = t % (rule[0] + rule[1]) < rule[0] ? 1 : 0;
                Due.is("light at " + t, b.base(1), due);
                bank += due;
                b.run(1);
            }
            Due.is("panels in light alone", b.base(2), bank);
        }
    }

    private static void bankIsFull() {
        int[][] had = {{9998, 0}, {9998, 1}, {9998, 2}, {9999, 0}, {9999, 99}, {9900, 99}, {9901, 99}};
        for (int[] h : had) {
            DarkBase b = new DarkBase();
            b.rule(2, h[0]);
            b.rule(3, h[1]);
            b.run(1);
            Due.is("9999 at most", b.base(2), Math.min(9999, h[0] + h[1]));
        }
    }

    private static void cycle() {
        DarkBase b = new DarkBase();
        b.rule(0, 2);
        b.rule(1, 3);
        int[] light = {1, 1, 0, 0, 0, 1, 1, 0};
        int bank = 100;
        for (int t = 0; t < light.length; t++) {
            Due.is("light", b.base(1), light[t]);
            b.run(1);
            bank += 10 * light[t];
            Due.is("bank", b.base(2), bank);
        }
        b.rule(1, 0);
        for (int t = 0; t < 5; t++) {
            Due.is("always light", b.base(1), 1);
            b.run(1);
        }
    }
}

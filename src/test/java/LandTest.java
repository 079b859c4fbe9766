/** Promises 24 and 25: land, kilos. */
public final class LandTest {
    public static void main(String[] args) {
        refused();
        wear();
        dust();
        parts();
        kilos();
        carriedByAll();
        wearFromEach();
        halves();
        partsAtTheEdge();
        Due.end();
    }

    private static void refused() {
        DarkBase b = new DarkBase();
        b.cell(3, 1);
        b.machine(0, 9);
        Due.is("cell", b.land(24, 1), DarkBase.BAD);
        Due.is("cell below", b.land(-1, 1), DarkBase.BAD);
        Due.is("parts", b.land(5, 100), DarkBase.BAD);
        Due.is("parts below", b.land(5, -1), DarkBase.BAD);
        Due.is("rock", b.land(3, 1), DarkBase.NO);
        Due.is("base", b.land(0, 1), DarkBase.NO);
        Due.is("machine", b.land(9, 1), DarkBase.NO);
        Due.is("bad comes first", b.land(0, 100), DarkBase.BAD);
        Due.is("nothing is lost", b.kilos(4), 0);
        Due.is("no parts", b.base(8), 0);
        Due.is("no wear", b.has(0, 3), 0);
    }

    private static void wear() {
        DarkBase b = new DarkBase();
        b.ground(10, 8);
        b.machine(0, 45);
        b.machine(0, 46);
        b.machine(0, 54);
        b.machine(0, 47);
        b.machine(0, 35);
        Due.is("one, two, two, three, two steps", b.land(44, 0), 15 + 10 + 15 + 0 + 10);
        int[] due = {15, 10, 15, 0, 10};
        for (int i = 0; i < 5; i++) {
            Due.is("wear", b.has(i, 3), due[i]);
        }
        b.tune(0, 1, 98);
        b.tune(1, 1, 100);
        b.tune(2, 1, 85);
        Due.is("what they got, a hundred at most", b.land(44, 0), 2 + 0 + 15 + 0 + 10);
        Due.is("broken", b.has(0, 7), 1);
        Due.is("just broken", b.has(2, 3), 100);
        b.ground(6, 4);
        b.machine(0, 5);
        Due.is("not round the edge", b.land(6, 0), 0);
    }

    private static void dust() {
        DarkBase b = new DarkBase();
        b.put(8, 0, 5);
        b.cell(7, 2);
        b.cell(9, 3);
        b.cell(14, 1);
        b.put(2, 0, 1);
        b.put(2, 1, 9);
        b.land(8, 0);
        Due.is("half, cut", b.told(8, 1), 3);
        Due.is("not of a pit", b.told(7, 1), 20);
        Due.is("not of a road", b.told(9, 1), 20);
        Due.is("not of a rock", b.told(14, 1), 20);
        Due.is("of one none", b.told(2, 1), 1);
        Due.is("ice stays", b.told(2, 2), 9);
        Due.is("two steps away", b.told(1, 1), 20);
        Due.is("lost", b.kilos(4), 2);
        b.cell(5, 3);
        Due.is("on a road", b.land(5, 0), 0);
        Due.is("its own stays", b.told(5, 1), 20);
        Due.is("beside it goes", b.told(4, 1), 10);
        Due.is("not round the edge", b.told(6, 1), 20);
        b.put(0, 0, 20);
        b.land(1, 0);
        Due.is("not of the base", b.told(0, 1), 20);
    }

    private static void parts() {
        DarkBase b = new DarkBase();
        b.land(5, 99);
        Due.is("parts", b.base(8), 99);
        b.land(5, 0);
        Due.is("none", b.base(8), 99);
        b.store(2, 9950);
        b.land(5, 49);
        Due.is("9999", b.base(8), 9999);
        b.land(5, 99);
        Due.is("9999 at most", b.base(8), 9999);
    }

    /** DUST that all MACHINES carry, and no ICE. */
    private static void carriedByAll() {
        DarkBase b = new DarkBase();
        b.rule(4, 0);
        b.cell(14, 2);
        for (int i = 0; i < 4; i++) {
            b.machine(i % 2 == 0 ? 1 : 2, 12 + i);
            b.put(12 + i, 0, 1 + i);
            b.put(12 + i, 1, 9);
            Due.order(b, i, i, "scoop");
        }
        b.run(1);
        Due.is("1, 2 and 4", b.kilos(1), 7);
        Due.is("five of ice", b.has(2, 4), 5);
        Due.is("on cells", b.kilos(0), 19 * 20 + 3);
        Due.is("all", b.kilos(5), 19 * 20 + 10);
    }

    /** 15 and 10 at one and two steps, 100 at most, also of those that are broken; none at three. */
    private static void wearFromEach() {
        int[] before = {0, 84, 85, 86, 89, 90, 91, 99, 100};
        for (int away = 1; away <= 4; away++) {
            for (int wear : before) {
                DarkBase b = new DarkBase();
                b.machine(0, 12);
                b.tune(0, 1, wear);
                int gets = away < 3 ? 20 - 5 * away : 0;
                int due = Math.min(100, wear + gets);
                Due.is("got at " + away + " from " + wear, b.land(12 + away, 0), due - wear);
                Due.is("wear", b.has(0, 3), due);
                Due.is("broken", b.has(0, 7), due == 100 ? 1 : 0);
                Due.is("charge stays", b.has(0, 2), 50);
            }
        }
    }

    private static void halves() {
        int[] before = {0, 1, 2, 3, 998, 999};
        for (int dust : before) {
            DarkBase b = new DarkBase();
            b.put(14, 0, dust);
            b.put(8, 0, 0);
            b.put(13, 0, 0);
            b.put(15, 0, 0);
            b.put(20, 0, 0);
            b.land(14, 0);
            Due.is("half of " + dust + " stays", b.told(14, 1), dust - dust / 2);
            Due.is("half is lost", b.kilos(4), dust / 2);
            b.land(14, 0);
            int rest = dust - dust / 2;
            Due.is("and again", b.kilos(4), dust / 2 + rest / 2);
            Due.is("all together", b.kilos(5), 18 * 20 + dust);
        }
        DarkBase b = new DarkBase();
        b.land(23, 0);
        Due.is("in a corner three", b.kilos(4), 30);
        b.land(5, 0);
        Due.is("in another three more", b.kilos(4), 60);
    }

    private static void partsAtTheEdge() {
        int[][] had = {{9999, 0}, {9999, 99}, {9998, 1}, {9998, 2}, {9900, 99}, {9901, 99}, {0, 0}};
        for (int[] h : had) {
            DarkBase b = new DarkBase();
            b.store(2, h[0]);
            Due.is("no wear", b.land(5, h[1]), 0);
            Due.is("9999 at most", b.base(8), Math.min(9999, h[0] + h[1]));
        }
    }

    private static void kilos() {
        DarkBase b = new DarkBase();
        b.rule(4, 0);
        b.machine(2, 1);
        b.store(0, 30);
        b.put(0, 0, 6);
        Due.order(b, 0, 0, "fuse scoop");
        b.run(2);
        b.land(13, 0);
        int[] due = {6 + 5 + 17 * 20 + 5 * 10, 5, 30, 10, 50, 496};
        for (int what = 0; what < due.length; what++) {
            Due.is("kilos " + what, b.kilos(what), due[what]);
        }
        Due.is("what", b.kilos(6), DarkBase.BAD);
        Due.is("what below", b.kilos(-1), DarkBase.BAD);
    }
}

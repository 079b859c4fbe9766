/** Promises 1 to 9: a new object, ground, cell, put, told, isOf, map, lay, steps. */
public final class GroundTest {
    public static void main(String[] args) {
        newObject();
        ground();
        groundOfEachSize();
        groundLeavesAllElse();
        machinesOfANewGround();
        cell();
        put();
        told();
        isOf();
        map();
        mapOfSeveralReports();
        mapKnowsWhatCame();
        lay();
        layOfEdges();
        steps();
        Due.end();
    }

    private static void newObject() {
        DarkBase b = new DarkBase();
        Due.is("cells", b.count(0), 24);
        for (int what = 1; what <= 8; what++) {
            Due.is("count " + what, b.count(what), 0);
        }
        int[] base = {0, 1, 100, 10, 0, 0, 0, 0, 0};
        for (int what = 0; what < base.length; what++) {
            Due.is("base " + what, b.base(what), base[what]);
        }
        for (int cell = 0; cell < 24; cell++) {
            Due.is("kind", b.told(cell, 0), cell == 0 ? 4 : 0);
            Due.is("dust", b.told(cell, 1), cell == 0 ? 0 : 20);
            Due.is("ice", b.told(cell, 2), 0);
            Due.is("machine", b.told(cell, 3), DarkBase.NONE);
            Due.is("map", b.map(cell, 0), DarkBase.NONE);
        }
        Due.is("light", b.rule(0, 14), 14);
        Due.is("dark", b.rule(1, 14), 14);
        Due.is("late", b.rule(4, 3), 3);
        Due.is("kilos", b.kilos(5), 460);
        Due.is("back", b.back(), DarkBase.NO);
        Due.is("sheet 0", b.mark(0, 0, 0), DarkBase.NOTHING);
        Due.is("sheet 1", b.mark(1, 0, 0), DarkBase.NOTHING);
    }

    private static void ground() {
        DarkBase b = new DarkBase();
        int[][] bad = {{1, 2}, {2, 1}, {11, 2}, {2, 9}, {0, 0}, {-3, 4}, {Integer.MAX_VALUE, 2}, {2, Integer.MIN_VALUE}};
        for (int[] size : bad) {
            Due.is("bad ground", b.ground(size[0], size[1]), DarkBase.BAD);
        }
        Due.is("cells stay", b.count(0), 24);
        Due.is("least", b.ground(2, 2), 4);
        Due.is("behind the last", b.told(4, 0), DarkBase.BAD);
        Due.is("most", b.ground(10, 8), 80);
        Due.is("last", b.told(79, 1), 20);
        Due.is("kilos", b.kilos(0), 79 * 20);
        b.cell(7, 1);
        b.put(9, 0, 999);
        b.put(9, 1, 5);
        Due.is("again", b.ground(10, 8), 80);
        Due.is("as at first", b.told(7, 0), 0);
        Due.is("dust as at first", b.told(9, 1), 20);
        Due.is("ice as at first", b.told(9, 2), 0);
        Due.is("base", b.told(0, 0), 4);
        Due.is("base's dust", b.told(0, 1), 0);
    }

    /** CELLS are numbered row by row: x is the number's rest by WIDE, y the row. */
    private static void groundOfEachSize() {
        for (int wide = 1; wide <= 11; wide++) {
            for (int high = 1; high <= 9; high++) {
                DarkBase b = new DarkBase();
                boolean can = wide >= 2 && wide <= 10 && high >= 2 && high <= 8;
                int cells = can ? wide * high : 24;
                Due.is("ground " + wide + " " + high, b.ground(wide, high), can ? cells : DarkBase.BAD);
                Due.is("cells", b.count(0), cells);
                Due.is("the last", b.told(cells - 1, 1), 20);
                Due.is("behind the last", b.told(cells, 1), DarkBase.BAD);
                Due.is("kilos", b.kilos(5), 20 * (cells - 1));
                if (can) {
                    Due.is("to the end of a row", b.steps(0, wide - 1), wide - 1);
                    Due.is("to the next row", b.steps(0, wide), 1);
                    Due.is("from row to row", b.steps(wide - 1, wide), wide);
                    Due.is("to the last", b.steps(0, cells - 1), wide + high - 2);
                    Due.is("and from it", b.steps(cells - 1, 0), wide + high - 2);
                }
            }
        }
    }

    /** None of what was stays with MACHINES that come to a new GROUND, nor with its REPORTS and ORDERS. */
    private static void machinesOfANewGround() {
        DarkBase b = new DarkBase();
        b.rule(4, 0);
        b.machine(2, 7);
        b.machine(1, 8);
        Due.order(b, 0, 0, "while 1{scoop wait}");
        Due.order(b, 1, 1, "scoop scoop until 0");
        b.run(4);
        b.tune(0, 1, 77);
        b.tune(1, 1, 100);
        b.rule(4, 2);
        b.run(1);
        b.send(0, 1);
        Due.is("same size", b.ground(6, 4), 24);
        Due.is("none", b.has(0, 0), DarkBase.BAD);
        Due.is("none there", b.told(7, 3), DarkBase.NONE);
        Due.is("the map knows nothing", b.map(7, 0), DarkBase.NONE);
        Due.is("nor of 8", b.map(8, 3), DarkBase.NONE);
        Due.is("none carried", b.kilos(1), 0);
        for (int i = 0; i < 2; i++) {
            Due.is("numbered from 0", b.machine(1, 7 + i), i);
            int[] due = {1, 7 + i, 50, 0, 0, DarkBase.NONE, DarkBase.NONE, 0};
            for (int what = 0; what < due.length; what++) {
                Due.is("has " + what, b.has(i, what), due[what]);
            }
        }
        b.run(3);
        Due.is("no order comes", b.has(0, 6), DarkBase.NONE);
        Due.is("reports of now alone", b.map(7, 3), 5);
        b.send(0, 1);
        b.run(3);
        Due.is("from the first on", b.has(0, 4), 5);
    }

    private static void groundLeavesAllElse() {
        DarkBase b = new DarkBase();
        b.load(50, 7);
        b.rule(2, 30);
        b.rule(0, 9);
        b.rule(1, 8);
        b.work(1, 0, 5, 0);
        b.sheet(1, 3);
        b.mark(1, 2, 77);
        b.machine(2, 1);
        b.machine(2, 4);
        for (int what = 0; what < 3; what++) {
            b.store(what, 5);
        }
        Due.program(b, 3, "fuse");
        b.tell(20);
        b.send(0, 3);
        b.run(4);
        b.send(0, 3);
        b.land(5, 9);
        Due.is("fused", b.kilos(3), 10);
        Due.is("lost", b.kilos(4) > 0 ? 1 : 0, 1);
        Due.is("reports", b.count(5), 6);
        Due.tape(b, "wait");
        b.keep();
        b.rule(4, 2);
        Due.is("ground", b.ground(3, 2), 6);
        int[] count = {6, 0, 1, 1, 0, 0, 1, 1, 4};
        for (int what = 0; what < count.length; what++) {
            Due.is("count " + what, b.count(what), count[what]);
        }
        int[] base = {4, 1, 20, 10, 21, 1, 0, 0, 0};
        for (int what = 0; what < base.length; what++) {
            Due.is("base " + what, b.base(what), base[what]);
        }
        int[] kilos = {100, 0, 0, 0, 0, 100};
        for (int what = 0; what < kilos.length; what++) {
            Due.is("kilos " + what, b.kilos(what), kilos[what]);
        }
        for (int cell = 0; cell < 6; cell++) {
            Due.is("map", b.map(cell, 3), DarkBase.NONE);
        }
        Due.is("no order", b.order(0, 0), DarkBase.NONE);
        Due.is("light", b.rule(0, 14), 9);
        Due.is("dark", b.rule(1, 14), 8);
        Due.is("late", b.rule(4, 3), 2);
        Due.is("the sheet", b.mark(1, 2, 0), 77);
        Due.is("what waits", b.check(1, 1), 0);
        Due.is("what is on the tape", b.program(0), 1);
        Due.is("numbered from 0", b.machine(0, 5), 0);
        Due.is("the program", b.send(0, 3), 7);
        b.rule(2, 400);
        Due.is("the work", b.planned(3, 9, 0), 0);
        Due.is("back", b.back(), 4);
        Due.is("cells are back", b.count(0), 24);
    }

    private static void cell() {
        DarkBase b = new DarkBase();
        Due.is("base", b.cell(0, 3), DarkBase.BAD);
        Due.is("below", b.cell(-1, 0), DarkBase.BAD);
        Due.is("above", b.cell(24, 0), DarkBase.BAD);
        Due.is("kind 4", b.cell(1, 4), DarkBase.BAD);
        Due.is("kind -1", b.cell(1, -1), DarkBase.BAD);
        b.put(5, 1, 8);
        Due.is("ground to rock", b.cell(5, 1), 0);
        Due.is("rock to pit", b.cell(5, 2), 1);
        Due.is("pit to road", b.cell(5, 3), 2);
        Due.is("road to ground", b.cell(5, 0), 3);
        Due.is("dust stays", b.told(5, 1), 20);
        Due.is("ice stays", b.told(5, 2), 8);
        b.machine(0, 5);
        Due.is("rock under a machine", b.cell(5, 1), DarkBase.NO);
        Due.is("nothing changed", b.told(5, 0), 0);
        Due.is("pit under a machine", b.cell(5, 2), 0);
    }

    private static void put() {
        DarkBase b = new DarkBase();
        Due.is("dust", b.put(3, 0, 999), 20);
        Due.is("dust again", b.put(3, 0, 0), 999);
        Due.is("ice", b.put(3, 1, 7), 0);
        Due.is("ice again", b.put(3, 1, 1), 7);
        Due.is("base", b.put(0, 0, 4), 0);
        Due.is("below", b.put(3, 0, -1), DarkBase.BAD);
        Due.is("above", b.put(3, 0, 1000), DarkBase.BAD);
        Due.is("what", b.put(3, 2, 1), DarkBase.BAD);
        Due.is("what below", b.put(3, -1, 1), DarkBase.BAD);
        Due.is("cell", b.put(24, 0, 1), DarkBase.BAD);
        Due.is("cell below", b.put(-1, 0, 1), DarkBase.BAD);
        Due.is("kilos", b.kilos(0), 22 * 20 + 4);
    }

    private static void told() {
        DarkBase b = new DarkBase();
        b.machine(1, 9);
        b.machine(1, 8);
        b.put(9, 1, 3);
        Due.is("kind", b.told(9, 0), 0);
        Due.is("dust", b.told(9, 1), 20);
        Due.is("ice", b.told(9, 2), 3);
        Due.is("machine 0", b.told(9, 3), 0);
        Due.is("machine 1", b.told(8, 3), 1);
        Due.is("none", b.told(7, 3), DarkBase.NONE);
        Due.is("what", b.told(9, 4), DarkBase.BAD);
        Due.is("what below", b.told(9, -1), DarkBase.BAD);
        Due.is("cell", b.told(24, 0), DarkBase.BAD);
        Due.is("cell below", b.told(-1, 0), DarkBase.BAD);
    }

    private static void isOf() {
        DarkBase b = new DarkBase();
        b.cell(1, 1);
        b.cell(2, 2);
        b.cell(3, 3);
        int[][] due = {{1, 0, 0, 1, 1}, {0, 1, 0, 0, 0}, {1, 0, 1, 0, 0}, {1, 0, 0, 1, 0}, {1, 0, 0, 0, 0}};
        for (int cell = 0; cell < 5; cell++) {
            for (int kind = 0; kind < 5; kind++) {
                Due.is("isOf " + cell + " " + kind, b.isOf(cell, kind), due[cell][kind]);
            }
            Due.is("kind 5", b.isOf(cell, 5), DarkBase.BAD);
            Due.is("kind -1", b.isOf(cell, -1), DarkBase.BAD);
        }
        Due.is("cell", b.isOf(24, 0), DarkBase.BAD);
        Due.is("cell below", b.isOf(-1, 0), DarkBase.BAD);
    }

    private static void map() {
        DarkBase b = new DarkBase();
        b.machine(0, 7);
        b.put(7, 1, 6);
        b.cell(7, 2);
        b.run(1);
        Due.is("on its way", b.count(5), 1);
        b.run(2);
        Due.is("not yet", b.map(7, 0), DarkBase.NONE);
        b.put(7, 0, 1);
        b.run(1);
        int[] due = {2, 20, 6, 0};
        for (int what = 0; what < 4; what++) {
            Due.is("map " + what, b.map(7, what), due[what]);
        }
        Due.is("sent on and on", b.count(5), 3);
        b.tune(0, 1, 100);
        b.run(10);
        Due.is("broken ones send none", b.count(5), 0);
        Due.is("the last one", b.map(7, 3), 3);
        Due.is("dust then", b.map(7, 1), 1);
        Due.is("others", b.map(8, 0), DarkBase.NONE);
        Due.is("what", b.map(8, 4), DarkBase.BAD);
        Due.is("what below", b.map(8, -1), DarkBase.BAD);
        Due.is("cell", b.map(24, 0), DarkBase.BAD);
        Due.is("cell below", b.map(-1, 0), DarkBase.BAD);
    }

    private static void mapOfSeveralReports() {
        DarkBase b = new DarkBase();
        b.machine(0, 7);
        b.run(1);
        b.rule(4, 2);
        b.put(7, 0, 33);
        b.run(1);
        b.rule(4, 9);
        b.run(1);
        Due.is("both due at 3", b.map(7, 3), DarkBase.NONE);
        b.run(1);
        Due.is("the later one", b.map(7, 3), 1);
        Due.is("what it tells", b.map(7, 1), 33);
        b.rule(4, 0);
        b.run(1);
        Due.is("at once", b.map(7, 3), 4);
        Due.is("those on their way", b.count(5), 2);
    }

    /** LATE 0 to 9: a REPORT of TICK t is known behind TICK t and LATE, and tells what was. */
    private static void mapKnowsWhatCame() {
        for (int late = 0; late <= 9; late++) {
            DarkBase b = new DarkBase();
            b.rule(4, late);
            b.machine(0, 9);
            b.put(9, 0, 100);
            b.put(9, 1, 200);
            b.cell(9, 3);
            b.run(1);
            b.put(9, 0, 101);
            b.put(9, 1, 201);
            b.cell(9, 2);
            if (late > 0) {
                Due.is("on its way", b.count(5), 1);
                if (late > 1) {
                    b.run(late - 1);
                }
                Due.is("not yet, with late " + late, b.map(9, 0), DarkBase.NONE);
                b.run(1);
            }
            int[] due = {3, 100, 200, 0};
            for (int what = 0; what < 4; what++) {
                Due.is("late " + late + ", what " + what, b.map(9, what), due[what]);
            }
            Due.is("as many as late", b.count(5), late);
            b.run(1);
            Due.is("and the next", b.map(9, 3), 1);
            Due.is("what it tells", b.map(9, 1), 101);
            Due.is("of its ice", b.map(9, 2), 201);
            Due.is("of its kind", b.map(9, 0), 2);
        }
    }

    /** DUST from a SHEET with 0 to 80 places, 0 to 999 as it is, all else 0. */
    private static void layOfEdges() {
        int[] told = {-32768, -1, 0, 1, 998, 999, 1000, 32767, 32768, 65535, 65536, 66535, 66536};
        int[] due = {0, 0, 0, 1, 998, 999, 0, 0, 0, 0, 0, 999, 0};
        DarkBase b = new DarkBase();
        b.sheet(1, told.length);
        for (int i = 0; i < told.length; i++) {
            b.mark(1, i, told[i]);
        }
        b.put(5, 1, 44);
        b.cell(6, 1);
        Due.is("all places", b.lay(1), told.length);
        for (int i = 0; i < told.length; i++) {
            Due.is("laid " + told[i], b.told(i, 1), due[i]);
        }
        Due.is("none behind them", b.told(told.length, 1), 20);
        Due.is("ice stays", b.told(5, 2), 44);
        Due.is("a rock has dust, too", b.told(6, 0), 1);
        int[] places = {0, 1, 3, 4, 5, 80};
        for (int n : places) {
            b = new DarkBase();
            b.ground(2, 2);
            b.sheet(0, n);
            Due.is("of four cells and " + n + " places", b.lay(0), Math.min(4, n));
            Due.is("kilos", b.kilos(0), 20 * Math.max(0, Math.min(3, 4 - n)));
        }
    }

    private static void lay() {
        DarkBase b = new DarkBase();
        Due.is("sheet 2", b.lay(2), DarkBase.BAD);
        Due.is("sheet -1", b.lay(-1), DarkBase.BAD);
        Due.is("missing", b.lay(0), DarkBase.NOTHING);
        b.sheet(0, 3);
        b.mark(0, 0, 999);
        b.mark(0, 1, 1000);
        b.mark(0, 2, -1);
        Due.is("three", b.lay(0), 3);
        Due.is("999", b.told(0, 1), 999);
        Due.is("1000", b.told(1, 1), 0);
        Due.is("-1", b.told(2, 1), 0);
        Due.is("stays", b.told(3, 1), 20);
        b.sheet(1, 0);
        Due.is("no places", b.lay(1), 0);
        b.sheet(1, 80);
        Due.is("more places than cells", b.lay(1), 24);
        Due.is("all gone", b.kilos(0), 0);
        b.ground(10, 8);
        Due.is("as many", b.lay(1), 80);
    }

    private static void steps() {
        DarkBase b = new DarkBase();
        Due.is("straight", b.steps(0, 23), 8);
        Due.is("back", b.steps(23, 0), 8);
        Due.is("none", b.steps(5, 5), 0);
        Due.is("no way round the edge", b.steps(5, 6), 6);
        b.cell(4, 1);
        b.cell(11, 2);
        b.cell(10, 1);
        Due.is("round rocks", b.steps(3, 5), 6);
        b.cell(17, 1);
        Due.is("shut in", b.steps(3, 5), DarkBase.NONE);
        Due.is("shut in with it", b.steps(11, 5), 1);
        Due.is("from a rock", b.steps(4, 5), DarkBase.NONE);
        Due.is("to a rock", b.steps(5, 4), DarkBase.NONE);
        Due.is("a rock itself", b.steps(4, 4), DarkBase.NONE);
        b.machine(0, 2);
        Due.is("machines do not stand in it", b.steps(1, 3), 2);
        Due.is("cell", b.steps(24, 0), DarkBase.BAD);
        Due.is("other", b.steps(0, 24), DarkBase.BAD);
        Due.is("cell below", b.steps(-1, 0), DarkBase.BAD);
        Due.is("other below", b.steps(0, -1), DarkBase.BAD);
        b.ground(10, 8);
        for (int y = 0; y < 7; y++) {
            b.cell(1 + 10 * y, 1);
            b.cell(3 + 10 * y, 1);
            b.cell(2 + 10 * (y + 1), 0);
        }
        b.cell(72, 1);
        Due.is("a wall", b.steps(0, 9), DarkBase.NONE);
        b.cell(72, 0);
        Due.is("round the wall", b.steps(0, 9), 23);
    }
}

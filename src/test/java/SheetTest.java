/** Promises 36 to 38: sheet, mark, copy. */
public final class SheetTest {
    public static void main(String[] args) {
        sheet();
        mark();
        copyRefused();
        copyOfNone();
        copy();
        overlap();
        Due.end();
    }

    private static void sheet() {
        DarkBase b = new DarkBase();
        Due.is("sheet 2", b.sheet(2, 1), DarkBase.BAD);
        Due.is("sheet -1", b.sheet(-1, 1), DarkBase.BAD);
        Due.is("above 80", b.sheet(0, 81), DarkBase.BAD);
        Due.is("below 0", b.sheet(0, -1), DarkBase.SIZE);
        Due.is("far below 0", b.sheet(1, Integer.MIN_VALUE), DarkBase.SIZE);
        Due.is("bad comes first", b.sheet(2, -1), DarkBase.BAD);
        Due.is("still missing", b.mark(0, 0, 1), DarkBase.NOTHING);
        Due.is("none", b.sheet(0, 0), 0);
        Due.is("there, without places", b.mark(0, 0, 1), DarkBase.INDEX);
        Due.is("eighty", b.sheet(0, 80), 80);
        Due.is("the last", b.mark(0, 79, 7), 0);
        Due.is("anew", b.sheet(0, 80), 80);
        Due.is("all 0", b.mark(0, 79, 7), 0);
        Due.is("fewer", b.sheet(0, 3), 3);
        Due.is("no such place", b.mark(0, 3, 7), DarkBase.INDEX);
        Due.is("refused", b.sheet(0, -1), DarkBase.SIZE);
        Due.is("as it was", b.mark(0, 2, 7), 0);
    }

    private static void mark() {
        DarkBase b = new DarkBase();
        b.sheet(1, 4);
        Due.is("sheet 2", b.mark(2, 0, 1), DarkBase.BAD);
        Due.is("sheet -1", b.mark(-1, 0, 1), DarkBase.BAD);
        Due.is("missing", b.mark(0, 9, 1), DarkBase.NOTHING);
        Due.is("below", b.mark(1, -1, 1), DarkBase.INDEX);
        Due.is("behind", b.mark(1, 4, 1), DarkBase.INDEX);
        int[] told = {32767, 32768, 65535, 65536, -32769, 70000, Integer.MIN_VALUE};
        int[] due = {32767, -32768, -1, 0, 32767, 4464, 0};
        for (int i = 0; i < told.length; i++) {
            b.mark(1, 3, told[i]);
            Due.is("as a short", b.mark(1, 3, 0), due[i]);
        }
    }

    private static void copyRefused() {
        DarkBase b = new DarkBase();
        b.sheet(0, 5);
        Due.is("from", b.copy(2, 0, 0, 0, 1), DarkBase.BAD);
        Due.is("from below", b.copy(-1, 0, 0, 0, 1), DarkBase.BAD);
        Due.is("to", b.copy(0, 0, 2, 0, 1), DarkBase.BAD);
        Due.is("to below", b.copy(0, 0, -1, 0, 1), DarkBase.BAD);
        Due.is("missing to", b.copy(0, 0, 1, 0, 1), DarkBase.NOTHING);
        Due.is("missing from", b.copy(1, 0, 0, 0, 1), DarkBase.NOTHING);
        Due.is("missing comes first", b.copy(1, 9, 0, 9, -1), DarkBase.NOTHING);
        b.sheet(1, 3);
        int[][] bad = {{-1, 0, 1}, {0, -1, 1}, {0, 0, -1}, {5, 0, 1}, {0, 3, 1}, {3, 0, 3}, {0, 1, 3}, {0, 0, 4}, {0, 0, 6},
            {1, 1, Integer.MAX_VALUE}, {Integer.MAX_VALUE, 0, 1}, {0, Integer.MAX_VALUE, Integer.MAX_VALUE},
            {Integer.MIN_VALUE, 0, Integer.MIN_VALUE}};
        for (int[] c : bad) {
            Due.is("index", b.copy(0, c[0], 1, c[1], c[2]), DarkBase.INDEX);
        }
    }

    private static void copyOfNone() {
        DarkBase b = new DarkBase();
        b.sheet(0, 5);
        b.sheet(1, 0);
        Due.is("none", b.copy(0, 2, 1, 0, 0), 0);
        Due.is("behind the last is fine", b.copy(0, 5, 1, 0, 0), 0);
        Due.is("further is not", b.copy(0, 6, 1, 0, 0), DarkBase.INDEX);
        Due.is("nor there", b.copy(0, 5, 1, 1, 0), DarkBase.INDEX);
        Due.is("nor below", b.copy(0, -1, 1, 0, 0), DarkBase.INDEX);
    }

    private static void fill(DarkBase b, int s, int n) {
        b.sheet(s, n);
        for (int i = 0; i < n; i++) {
            b.mark(s, i, 10 * (s + 1) + i);
        }
    }

    private static void holds(DarkBase b, int s, int... due) {
        for (int i = 0; i < due.length; i++) {
            int was = b.mark(s, i, 0);
            b.mark(s, i, was);
            Due.is("place " + i, was, due[i]);
        }
        Due.is("no more", b.mark(s, due.length, 0), DarkBase.INDEX);
    }

    private static void copy() {
        DarkBase b = new DarkBase();
        fill(b, 0, 5);
        fill(b, 1, 4);
        Due.is("two", b.copy(0, 3, 1, 1, 2), 2);
        holds(b, 1, 20, 13, 14, 23);
        holds(b, 0, 10, 11, 12, 13, 14);
        Due.is("four", b.copy(1, 0, 0, 1, 4), 4);
        holds(b, 0, 10, 20, 13, 14, 23);
    }

    private static void overlap() {
        DarkBase b = new DarkBase();
        fill(b, 0, 6);
        Due.is("up", b.copy(0, 0, 0, 1, 5), 5);
        holds(b, 0, 10, 10, 11, 12, 13, 14);
        fill(b, 0, 6);
        Due.is("down", b.copy(0, 2, 0, 0, 4), 4);
        holds(b, 0, 12, 13, 14, 15, 14, 15);
        Due.is("onto itself", b.copy(0, 0, 0, 0, 6), 6);
        holds(b, 0, 12, 13, 14, 15, 14, 15);
    }
}

/** Promises 26, 27, 32 and 33: night, cut, tell, and check of NIGHTS. */
public final class NightTest {
    public static void main(String[] args) {
        limits();
        leastHarm();
        tiesByCountAndBits();
        againstAllCuts();
        tell();
        check();
        checkOfEachLength();
        justEnough();
        Due.end();
    }

    private static void limits() {
        DarkBase b = new DarkBase();
        int[] bad = {0, -1, 25, Integer.MAX_VALUE, Integer.MIN_VALUE};
        for (int n : bad) {
            Due.is("night", b.night(n), DarkBase.BAD);
            Due.is("cut", b.cut(n), DarkBase.BAD);
        }
        Due.is("no loads", b.night(24), 0);
        Due.is("none off", b.cut(1), 0);
        b.rule(2, 0);
        for (int i = 0; i < 8; i++) {
            b.load(1, 99);
        }
        Due.is("all", b.night(1), 792);
        Due.is("all off", b.cut(1), 255);
    }

    private static void leastHarm() {
        DarkBase b = new DarkBase();
        b.load(30, 10);
        b.load(10, 6);
        b.load(10, 6);
        b.rule(2, 30);
        Due.is("one rather than two", b.night(1), 10);
        Due.is("its bit", b.cut(1), 1);
        b.rule(2, 60);
        Due.is("two ticks", b.cut(2), 1);
        b.rule(2, 59);
        Due.is("one short", b.cut(2), 1);
        b.rule(2, 40);
        Due.is("20 each", b.cut(2), 1);
        b.rule(2, 39);
        Due.is("less than 20 each", b.night(2), 16);
        b.rule(2, 50);
        Due.is("all are paid", b.cut(1), 0);
        b.rule(2, 49);
        Due.is("not all are", b.night(1), 6);
    }

    private static void tiesByCountAndBits() {
        DarkBase b = new DarkBase();
        b.load(5, 1);
        b.load(5, 1);
        b.load(10, 2);
        b.rule(2, 10);
        Due.is("the fewest", b.cut(1), 4);
        b = new DarkBase();
        int[][] loads = {{4, 1}, {5, 2}, {5, 2}, {6, 3}};
        for (int[] load : loads) {
            b.load(load[0], load[1]);
        }
        b.rule(2, 10);
        Due.is("two off, harm 4: 1 and 2, or 0 and 3", b.night(1), 4);
        Due.is("the first by bits", b.cut(1), 6);
    }

    private static void againstAllCuts() {
        int[] powers = {3, 50, 7, 7, 20, 1, 9, 12};
        int[] harms = {4, 9, 4, 8, 99, 1, 5, 4};
        DarkBase b = new DarkBase();
        for (int i = 0; i < 8; i++) {
            b.load(powers[i], harms[i]);
        }
        for (int bank = 0; bank < 300; bank += 7) {
            b.rule(2, bank);
            int best = -1;
            long bestWorth = Long.MAX_VALUE;
            for (int off = 255; off >= 0; off--) {
                int taken = 0;
                long worth = Integer.bitCount(off) * 1000L + off;
                for (int i = 0; i < 8; i++) {
                    taken += (off >> i & 1) == 0 ? powers[i] : 0;
                    worth += (off >> i & 1) * harms[i] * 100000L;
                }
                if (taken * 3 <= bank && worth < bestWorth) {
                    best = off;
                    bestWorth = worth;
                }
            }
            Due.is("cut of " + bank, b.cut(3), best);
            Due.is("harm of " + bank, b.night(3), bestWorth / 100000);
        }
    }

    private static void tell() {
        DarkBase b = new DarkBase();
        for (int n = 1; n <= 100; n++) {
            Due.is("tell", b.tell(Integer.MIN_VALUE + n), n);
        }
        Due.is("full", b.tell(0), DarkBase.FULL);
        Due.is("a hundred", b.count(7), 100);
        b.check(1, 1);
        Due.is("none wait", b.count(7), 0);
        Due.is("from the first", b.tell(0), 1);
    }

    /** n TICKS, 1 to 24, and at each all that are not off are paid. */
    private static void justEnough() {
        for (int n = 1; n <= 24; n++) {
            DarkBase b = new DarkBase();
            b.load(7, 9);
            b.load(3, 2);
            b.rule(1, 0);
            int[] banks = {10 * n, 10 * n - 1, 7 * n, 7 * n - 1, 3 * n, 3 * n - 1, 0};
            int[] cuts = {0, 2, 2, 1, 1, 3, 3};
            int[] harms = {0, 2, 2, 9, 9, 11, 11};
            for (int i = 0; i < banks.length; i++) {
                b.rule(2, banks[i]);
                Due.is("cut of " + n + " from " + banks[i], b.cut(n), cuts[i]);
                Due.is("its harm", b.night(n), harms[i]);
            }
            b.rule(3, 99);
            Due.is("no panels in a night", b.cut(n), 3);
            Due.is("nothing is shed by it", b.base(4) + b.base(5), 0);
        }
    }

    private static void checkOfEachLength() {
        DarkBase b = new DarkBase();
        b.load(4, 9);
        for (int n = 1; n <= 24; n++) {
            for (int t = 1; t <= n; t++) {
                b.tell(100 - 4 * t);
            }
            Due.is("night of " + n, b.check(1, n), 0);
        }
        b = new DarkBase();
        b.load(5, 9);
        for (int n = 1; n <= 24; n++) {
            for (int t = 1; t < n; t++) {
                b.tell(5 * n > 100 ? 100 : 100 - 5 * t);
            }
            Due.is("one is missing of " + n, b.check(1, n), n);
        }
        for (int n = 0; n < 100; n++) {
            b.tell(100);
        }
        Due.is("far too many", b.check(1, 24), 25);
        Due.is("of no loads", checked(new DarkBase(), 3, 100, 100, 100), 0);
    }

    private static int checked(DarkBase b, int n, int... told) {
        for (int v : told) {
            b.tell(v);
        }
        int answer = b.check(1, n);
        Due.is("none wait then", b.count(7), 0);
        return answer;
    }

    private static void check() {
        DarkBase b = new DarkBase();
        b.load(20, 5);
        b.load(15, 4);
        b.rule(3, 50);
        Due.is("two of 35", checked(b, 2, 65, 30), 0);
        Due.is("with a cut", checked(b, 3, 80, 60, 40), 0);
        Due.is("none told", checked(b, 3), 1);
        Due.is("the first is not", checked(b, 3, 65, 60, 40), 1);
        Due.is("the third is not", checked(b, 3, 80, 60, 41), 3);
        Due.is("one is missing", checked(b, 3, 80, 60), 3);
        Due.is("one too many", checked(b, 3, 80, 60, 40, 20), 4);
        Due.is("wrong ahead of too many", checked(b, 3, 80, 61, 40, 20), 2);
        Due.is("n", checked(b, 0, 1, 2), DarkBase.BAD);
        Due.is("n above", checked(b, 25, 1, 2), DarkBase.BAD);
        b.tell(1);
        Due.is("what", b.check(2, 1), DarkBase.BAD);
        Due.is("gone all the same", b.count(7), 0);
        Due.is("what below", b.check(-1, 1), DarkBase.BAD);
        Due.is("nothing is paid by it", b.base(2), 100);
    }
}

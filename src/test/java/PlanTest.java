/** Promises 28 to 31 and 33: work, clear, plan, planned, check of PLANS. */
public final class PlanTest {
    public static void main(String[] args) {
        work();
        clear();
        refused();
        panelsAsTheyAreByThen();
        mustBeAbleToPay();
        rowsThatCanNotBePaidAlone();
        ahead();
        ties();
        tries();
        mostInTheBank();
        check();
        oneTick();
        nothingIsLeft();
        worksAnew();
        checkOfSeveral();
        bankIsFull();
        Due.end();
    }

    private static void work() {
        DarkBase b = new DarkBase();
        int[][] bad = {{0, 0, 0, 0}, {10, 0, 0, 0}, {1, -1, 0, 0}, {1, 51, 0, 0}, {1, 0, -1, 0}, {1, 0, 21, 0}, {1, 0, 0, -1}, {1, 0, 0, 1}};
        for (int[] w : bad) {
            Due.is("bad", b.work(w[0], w[1], w[2], w[3]), DarkBase.BAD);
        }
        Due.is("first", b.work(1, 0, 0, 0), 0);
        Due.is("itself ahead", b.work(9, 50, 20, 2), DarkBase.BAD);
        Due.is("second", b.work(9, 50, 20, 1), 1);
        for (int i = 2; i < 6; i++) {
            Due.is("work", b.work(1, 0, 0, (1 << i) - 1), i);
        }
        Due.is("full", b.work(1, 0, 0, 63), DarkBase.FULL);
        Due.is("bad comes first", b.work(1, 0, 0, 64), DarkBase.BAD);
        Due.is("six", b.count(6), 6);
    }

    private static void clear() {
        DarkBase b = new DarkBase();
        Due.is("none", b.clear(), 0);
        b.work(1, 0, 20, 0);
        b.work(1, 0, 20, 0);
        Due.is("two", b.clear(), 2);
        Due.is("no more", b.count(6), 0);
        Due.is("none again", b.clear(), 0);
        Due.is("nothing to plan", b.planned(4, 9, 0), DarkBase.NONE);
        Due.is("numbers begin anew", b.work(1, 0, 0, 1), DarkBase.BAD);
        Due.is("at 0", b.work(1, 0, 0, 0), 0);
    }

    private static void refused() {
        DarkBase b = new DarkBase();
        int[][] bad = {{0, 1}, {25, 1}, {1, 0}, {1, 20001}, {-1, 1}, {1, -1}};
        for (int[] p : bad) {
            Due.is("plan", b.plan(p[0], p[1]), DarkBase.BAD);
            Due.is("planned", b.planned(p[0], p[1], 0), DarkBase.BAD);
        }
        Due.is("i below", b.planned(1, 1, -1), DarkBase.BAD);
        Due.is("edges", b.plan(24, 20000), 340);
        Due.is("far from so many", b.planned(24, 20000, Integer.MAX_VALUE), DarkBase.NONE);
        b.run(20);
        Due.is("all in light", b.plan(1, 1), b.base(2) + 10);
    }

    private static void panelsAsTheyAreByThen() {
        DarkBase b = new DarkBase();
        b.work(2, 3, 20, 0);
        Due.is("two at 10 less 3, two at 30", b.plan(4, 9), 100 + 14 + 60);
        Due.is("done", b.planned(4, 9, 0), 0);
        Due.is("no more", b.planned(4, 9, 1), DarkBase.NONE);
        Due.is("not worth it", b.plan(2, 9), 120);
        Due.is("left out", b.planned(2, 9, 0), DarkBase.NONE);
        b.rule(3, 99);
        Due.is("above 99", b.plan(4, 9), 100 + 2 * 96 + 2 * 119);
        b.rule(2, 9999);
        b.load(50, 1);
        Due.is("9999 at most, and then it pays", b.plan(1, 9), 9949);
        Due.is("each time", b.plan(2, 9), 9949);
        Due.is("the bank stays", b.base(2), 9999);
        Due.is("panels stay", b.base(3), 99);
    }

    private static void mustBeAbleToPay() {
        DarkBase b = new DarkBase();
        b.rule(2, 0);
        b.work(1, 10, 20, 0);
        Due.is("just able", b.plan(3, 9), 60);
        b.rule(3, 9);
        Due.is("not able", b.plan(3, 9), 27);
        Due.is("not done", b.planned(3, 9, 0), DarkBase.NONE);
        b.load(9, 1);
        Due.is("loads alone", b.plan(3, 9), 0);
        b.load(1, 1);
        Due.is("no row", b.plan(3, 9), DarkBase.NO);
        Due.is("none planned", b.planned(3, 9, 5), DarkBase.NO);
    }

    private static void rowsThatCanNotBePaidAlone() {
        DarkBase b = new DarkBase();
        b.rule(2, 10);
        b.rule(3, 0);
        b.load(5, 1);
        b.work(1, 0, 2, 0);
        b.work(1, 0, 20, 1);
        Due.is("only the whole row can", b.plan(4, 9), 10 - 5 + 2 - 5 + 22 - 5 + 22 - 5);
        Due.is("first", b.planned(4, 9, 0), 0);
        Due.is("second", b.planned(4, 9, 1), 1);
    }

    private static void ahead() {
        DarkBase b = new DarkBase();
        b.work(3, 30, 0, 0);
        b.work(1, 0, 20, 1);
        b.work(1, 0, 1, 0);
        Due.is("0 must be ahead", b.plan(9, 99), 100 - 60 + 10 + 30 + 4 * 31);
        Due.is("it is", b.planned(9, 99, 0), 0);
        Due.is("2 alone", b.plan(3, 99), 132);
        Due.is("it is 2", b.planned(3, 99, 0), 2);
        b = new DarkBase();
        b.work(5, 0, 20, 0);
        Due.is("does not end within 4", b.plan(4, 1), 140);
        Due.is("does not begin", b.planned(4, 1, 0), DarkBase.NONE);
        b.work(5, 0, 0, 0);
        Due.is("ends with the fifth", b.plan(5, 2), 150);
    }

    private static void ties() {
        DarkBase b = new DarkBase();
        b.work(1, 0, 5, 0);
        b.work(1, 0, 5, 0);
        b.work(1, 0, 0, 0);
        Due.is("five ticks", b.plan(5, 99), 100 + 10 + 15 + 20 + 20 + 20);
        Due.is("the first", b.planned(5, 99, 0), 0);
        Due.is("then", b.planned(5, 99, 1), 1);
        Due.is("the one that ends", b.planned(5, 99, 2), DarkBase.NONE);
        b = new DarkBase();
        b.work(1, 0, 0, 0);
        b.work(1, 0, 3, 0);
        b.work(1, 0, 3, 0);
        Due.is("1 and 2 ahead of 0", b.planned(2, 99, 0), 1);
        Due.is("one is enough", b.planned(2, 99, 1), DarkBase.NONE);
    }

    private static void tries() {
        DarkBase b = new DarkBase();
        b.work(1, 0, 0, 0);
        b.work(1, 0, 0, 0);
        b.work(2, 0, 0, 3);
        Due.is("0, 01, 012, 1, 10, 102", b.plan(9, 6), 190);
        Due.is("one too few", b.plan(9, 5), DarkBase.SPENT);
        Due.is("planned, too", b.planned(9, 5, 0), DarkBase.SPENT);
        Due.is("by hours: 0, 01, 1, 10", b.plan(3, 4), 130);
        Due.is("by hours, too few", b.plan(3, 3), DarkBase.SPENT);
        b.clear();
        b.rule(2, 0);
        b.rule(3, 0);
        b.work(1, 1, 0, 0);
        b.work(1, 0, 0, 0);
        Due.is("one that can not be paid: 0, 1, 10", b.plan(2, 3), 0);
        Due.is("is a try", b.plan(2, 2), DarkBase.SPENT);
        b.load(1, 1);
        Due.is("spent comes ahead of no: 0, 1", b.plan(2, 1), DarkBase.SPENT);
        Due.is("no", b.plan(2, 2), DarkBase.NO);
        b = new DarkBase();
        for (int i = 0; i < 6; i++) {
            b.work(1, 0, 0, 0);
        }
        Due.is("all of them", b.plan(6, 1956), 160);
        Due.is("all but one", b.plan(6, 1955), DarkBase.SPENT);
    }

    private static void mostInTheBank() {
        DarkBase b = new DarkBase();
        b.work(2, 10, 4, 0);
        b.work(1, 20, 9, 0);
        b.work(3, 0, 1, 0);
        b.work(1, 50, 20, 2);
        Due.is("twelve ticks", b.plan(12, 20000), 466);
        int[] due = {1, 3, 0, 2, DarkBase.NONE};
        for (int i = 0; i < due.length; i++) {
            Due.is("planned " + i, b.planned(12, 20000, i), due[i]);
        }
    }

    private static void oneTick() {
        DarkBase b = new DarkBase();
        b.work(1, 5, 20, 0);
        b.work(2, 0, 20, 0);
        Due.is("only work 0 can be", b.plan(1, 1), 110);
        Due.is("and is left out", b.planned(1, 1, 0), DarkBase.NONE);
        b.clear();
        b.work(1, 0, 0, 0);
        Due.is("none comes first", b.planned(1, 1, 0), DarkBase.NONE);
        b.rule(2, 9999);
        Due.is("a full bank", b.plan(1, 1), 9999);
    }

    /** THE PLAN may leave 0 in THE BANK, and is one all the same. */
    private static void nothingIsLeft() {
        DarkBase b = new DarkBase();
        b.rule(2, 10);
        b.rule(3, 0);
        b.load(10, 1);
        b.work(1, 0, 10, 0);
        Due.is("0 at the end", b.plan(2, 1), 0);
        Due.is("by work 0", b.planned(2, 1, 0), 0);
        Due.is("alone", b.planned(2, 1, 1), DarkBase.NONE);
        Due.is("its rows", checked(b, 2, 0, 0, -1, 0), 0);
        Due.is("no others", checked(b, 2, 0, 0, -1, 1), 4);
        b.rule(2, 9);
        Due.is("one less is no plan", b.plan(2, 1), DarkBase.NO);
        Due.is("none planned", b.planned(2, 1, 0), DarkBase.NO);
        Due.is("no rows", checked(b, 2, 0, 0), DarkBase.NO);
    }

    /** WORKS behind clear are as they are told, with nothing of those that were. */
    private static void worksAnew() {
        DarkBase b = new DarkBase();
        for (int i = 0; i < 6; i++) {
            b.work(9, 50, 20, i == 0 ? 0 : 1);
        }
        Due.is("six", b.clear(), 6);
        b.work(2, 1, 0, 0);
        b.work(1, 0, 20, 0);
        b.work(1, 3, 9, 2);
        Due.is("hours, power, gain, ahead of each", b.plan(5, 9), 110 + (30 - 3) + 3 * 39);
        int[] due = {1, 2, DarkBase.NONE};
        for (int i = 0; i < due.length; i++) {
            Due.is("planned " + i, b.planned(5, 9, i), due[i]);
        }
    }

    private static void checkOfSeveral() {
        DarkBase b = new DarkBase();
        b.work(2, 3, 5, 0);
        b.work(1, 4, 20, 0);
        b.work(3, 1, 1, 0);
        int[] rows = {1, 106, 0, 133, 0, 160, -1, 195, -1, 230, -1, 265, -1, 300};
        Due.is("two, and none", checked(b, 7, rows), 0);
        for (int wrong = 0; wrong < rows.length; wrong++) {
            int[] off = rows.clone();
            off[wrong]++;
            Due.is("all ahead of " + wrong, checked(b, 7, off), 1 + wrong);
        }
        for (int many = 0; many < rows.length; many++) {
            Due.is("missing behind " + many, checked(b, 7, java.util.Arrays.copyOf(rows, many)), 1 + many);
        }
        Due.is("one too many", checked(b, 7, java.util.Arrays.copyOf(rows, 15)), 15);
        Due.is("not those of 6", checked(b, 6, rows), 13);
        for (int n = 0; n < 100; n++) {
            b.tell(n < rows.length ? rows[n] : 0);
        }
        Due.is("far too many", b.check(0, 7), 15);
    }

    /** 9999 at most ahead of paying, at each TICK. */
    private static void bankIsFull() {
        DarkBase b = new DarkBase();
        b.rule(2, 9990);
        b.rule(3, 9);
        Due.is("just 9999", b.plan(1, 1), 9999);
        b.rule(3, 99);
        b.work(1, 50, 20, 0);
        Due.is("a work is for nothing", b.planned(9, 1, 0), DarkBase.NONE);
        b.load(50, 1);
        Due.is("the last tick's load", b.plan(24, 1), 9949);
        Due.is("the bank stays", b.base(2), 9990);
    }

    private static int checked(DarkBase b, int n, int... told) {
        for (int v : told) {
            b.tell(v);
        }
        int answer = b.check(0, n);
        Due.is("none wait then", b.count(7), 0);
        return answer;
    }

    private static void check() {
        DarkBase b = new DarkBase();
        b.work(2, 3, 20, 0);
        b.load(5, 1);
        Due.is("rows", checked(b, 4, 0, 102, 0, 104, -1, 129, -1, 154), 0);
        Due.is("the work is not", checked(b, 4, 1, 102), 1);
        Due.is("the bank is not", checked(b, 4, 0, 103), 2);
        Due.is("the third tick's work is not", checked(b, 4, 0, 102, 0, 104, 0, 129, -1, 154), 5);
        Due.is("missing", checked(b, 4, 0, 102, 0, 104, -1, 129, -1), 8);
        Due.is("too many", checked(b, 4, 0, 102, 0, 104, -1, 129, -1, 154, -1), 9);
        Due.is("none", checked(b, 4), 1);
        Due.is("without works", checked(b, 1, -1, 105), 0);
        Due.is("n", checked(b, 0, 1), DarkBase.BAD);
        Due.is("n above", checked(b, 25, 1), DarkBase.BAD);
        b.rule(2, 0);
        b.rule(3, 0);
        Due.is("no", checked(b, 4, 1), DarkBase.NO);
        b = new DarkBase();
        for (int t = 1; t <= 24; t++) {
            b.tell(-1);
            b.tell(100 + 10 * t);
        }
        Due.is("the longest", b.check(0, 24), 0);
    }
}

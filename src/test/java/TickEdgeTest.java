/** The edges of what MACHINES do in a TICK: just enough and one too few, full and empty, who comes first, wrap-around. */
public final class TickEdgeTest {
    public static void main(String[] args) {
        chargeComesAheadOfActs();
        bankComesAheadOfActs();
        chargeOfSteps();
        targets();
        noWay();
        inTheWay();
        byNumber();
        wearOfSteps();
        roomToCarry();
        whereItDrops();
        wearOfFuses();
        dustOfFuses();
        edgesOfCharge();
        onlyAtTheBase();
        edgesOfMends();
        bestOfMends();
        mendedInTime();
        waits();
        whatDoesNothing();
        nothingWithoutCharge();
        untilHolds();
        fiftyOfEachKind();
        repeatsAnew();
        longTexts();
        wraps();
        compares();
        reports();
        Due.end();
    }

    private static void chargeIs(DarkBase b, String what, int due) {
        Due.is(what, b.has(0, 2), due);
    }

    private static void chargeComesAheadOfActs() {
        DarkBase b = new DarkBase();
        b.rule(4, 0);
        b.machine(1, 7);
        b.tune(0, 0, 0);
        Due.order(b, 0, 0, "scoop");
        b.run(1);
        Due.is("3 of charge are enough at once", b.has(0, 4), 5);
        chargeIs(b, "and are gone", 0);
        int[] before = {97, 98, 99, 100, 0};
        int[] due = {100, 100, 100, 100, 3};
        for (int i = 0; i < before.length; i++) {
            b.tune(0, 0, before[i]);
            b.run(1);
            chargeIs(b, "from " + before[i], due[i]);
        }
    }

    /** In one TICK THE BANK gets PANELS, then LOADS are paid, then MACHINES take what is left. */
    private static void bankComesAheadOfActs() {
        DarkBase b = new DarkBase();
        b.rule(4, 0);
        b.rule(2, 0);
        b.load(4, 1);
        b.machine(0, 0);
        b.tune(0, 1, 0);
        Due.order(b, 0, 0, "charge");
        b.run(1);
        chargeIs(b, "ten less four, and three of light", 50 + 3 + 6);
        Due.is("nothing is left", b.base(2), 0);
        b.rule(2, 9995);
        b.rule(3, 20);
        Due.order(b, 0, 0, "charge");
        b.run(1);
        Due.is("9999 at most, less a load and a charge", b.base(2), 9999 - 4 - 20);
        b.rule(2, 9980);
        b.rule(3, 19);
        b.run(1);
        Due.is("just 9999", b.base(2), 9999 - 4);
    }

    private static void chargeOfSteps() {
        DarkBase b = Dark.with(0, 7, 2, 0, "go 3 1");
        b.run(1);
        Due.is("two are enough", b.has(0, 1), 8);
        chargeIs(b, "and are gone", 0);
        b = Dark.with(0, 7, 1, 0, "go 3 1");
        b.run(1);
        Due.is("one is not", b.has(0, 1), 7);
        chargeIs(b, "it keeps it", 1);
        Due.is("nor is it worn", b.has(0, 3), 0);
        Due.is("nor given up", b.has(0, 6), 0);
        b.tune(0, 0, 4);
        b.run(2);
        Due.is("it goes when it can", b.has(0, 1), 9);
        b = Dark.with(0, 1, 1, 0, "go 0 0");
        b.run(1);
        Due.is("one is enough for the base", b.has(0, 1), 0);
        chargeIs(b, "it is gone", 0);
        b = Dark.with(0, 7, 50, 0, "go 2 1 go 3 1");
        b.cell(8, 3);
        b.cell(7, 3);
        b.run(2);
        chargeIs(b, "onto a road, then off it", 50 - 1 - 2);
        Due.is("worn once", b.has(0, 3), 1);
    }

    /** X below WIDE and Y below HIGH; else it is given up, and takes the TICK. */
    private static void targets() {
        int[][] sizes = {{2, 2}, {3, 5}, {10, 8}};
        for (int[] size : sizes) {
            DarkBase b = Dark.base();
            int wide = size[0], high = size[1], last = wide * high - 1;
            b.ground(wide, high);
            b.machine(1, last);
            Due.order(b, 0, 0, "go " + (wide - 1) + " " + (high - 1) + " scoop");
            b.run(1);
            Due.is("is there at once", b.has(0, 4), 5);
            Due.order(b, 0, 0, "go " + wide + " " + (high - 1) + " drop");
            b.run(1);
            Due.is("x is wide", b.has(0, 4), 5);
            Due.is("it stays", b.has(0, 1), last);
            b.run(1);
            Due.is("the next one", b.has(0, 4), 0);
            Due.order(b, 0, 0, "go " + (wide - 1) + " " + high + " scoop");
            b.run(1);
            Due.is("y is high", b.has(0, 4), 0);
            b.run(1);
            Due.is("and the next one", b.has(0, 4), 5);
            chargeIs(b, "giving up costs nothing", 50 - 3 - 1 - 3);
            Due.order(b, 0, 0, "go 0 0");
            b.tune(0, 0, 100);
            b.run(wide + high - 2);
            Due.is("as many steps as there are", b.has(0, 1), 0);
            Due.order(b, 0, 0, "go " + (wide - 1) + " " + (high - 1));
            b.tune(0, 0, 100);
            b.run(wide + high - 2);
            Due.is("and back", b.has(0, 1), last);
        }
    }

    private static void noWay() {
        int[][] rocks = {{15}, {1, 6, 8, 13}, {14, 9, 16, 21}};
        for (int[] around : rocks) {
            DarkBase b = Dark.with(1, 7, 50, 0, "go 3 2 scoop");
            for (int rock : around) {
                b.cell(rock, 1);
            }
            b.run(1);
            Due.is("no way, it stays", b.has(0, 1), 7);
            Due.is("and that takes the tick", b.has(0, 4), 0);
            chargeIs(b, "and costs nothing", 50);
            b.run(1);
            Due.is("the next one", b.has(0, 4), 5);
        }
        DarkBase b = Dark.with(0, 7, 50, 0, "go 3 1 drop");
        b.run(1);
        b.cell(9, 1);
        b.run(1);
        Due.is("the way ends", b.has(0, 1), 8);
        b.run(2);
        Due.is("given up, then drop, then over", b.has(0, 6), DarkBase.NONE);
    }

    private static void inTheWay() {
        for (int first = 0; first < 2; first++) {
            DarkBase b = Dark.base();
            b.machine(0, first == 0 ? 8 : 7);
            b.machine(0, first == 0 ? 7 : 8);
            int goer = 1 - first;
            Due.order(b, goer, 0, "go 3 1");
            b.tune(first, 1, 100);
            b.run(3);
            Due.is("behind machine " + first, b.has(goer, 1), 7);
            Due.is("no charge", b.has(goer, 2), 50);
            Due.is("no wear", b.has(goer, 3), 0);
            Due.is("it waits", b.has(goer, 6), 0);
            Due.is("so does the one that is there", b.has(first, 1), 8);
        }
    }

    private static void byNumber() {
        DarkBase b = Dark.base();
        b.machine(0, 8);
        b.machine(0, 7);
        Due.order(b, 0, 0, "go 3 1");
        Due.order(b, 1, 1, "go 2 1");
        b.run(1);
        Due.is("0 makes way", b.has(0, 1), 9);
        Due.is("for 1 in the same tick", b.has(1, 1), 8);
        b = Dark.base();
        b.machine(0, 7);
        b.machine(0, 8);
        Due.order(b, 0, 0, "go 2 1");
        Due.order(b, 1, 1, "go 3 1");
        b.run(1);
        Due.is("0 comes too early", b.has(0, 1), 7);
        Due.is("1 goes", b.has(1, 1), 9);
        b.run(1);
        Due.is("0 then", b.has(0, 1), 8);
        b = Dark.base();
        b.machine(0, 0);
        b.machine(0, 1);
        b.rule(2, 30);
        Due.order(b, 0, 0, "charge");
        b.run(1);
        Due.is("twenty of thirty", b.base(2), 10);
    }

    private static void wearOfSteps() {
        DarkBase b = Dark.with(0, 7, 50, 98, "go 5 1");
        b.run(1);
        Due.is("99 is not broken", b.has(0, 7), 0);
        b.run(1);
        Due.is("100 is", b.has(0, 7), 1);
        Due.is("it came that far", b.has(0, 1), 9);
        b.run(2);
        Due.is("and no further", b.has(0, 1), 9);
        Due.is("it keeps its program", b.has(0, 6), 0);
        b.tune(0, 1, 99);
        for (int cell = 10; cell < 12; cell++) {
            b.cell(cell, 3);
        }
        b.run(2);
        Due.is("roads do not wear", b.has(0, 3), 99);
        Due.is("there", b.has(0, 1), 11);
    }

    private static void roomToCarry() {
        int[][] lying = {{4, 4, 4}, {5, 5, 5}, {3, 5, 5}, {5, 1, 9}, {0, 0, 6}, {4, 5, 1}, {5, 4, 2}};
        int[][] carried = {{4, 8, 10}, {5, 10, 10}, {3, 8, 10}, {5, 6, 10}, {0, 0, 5}, {4, 9, 10}, {5, 9, 10}};
        for (int ice = 0; ice < 2; ice++) {
            for (int i = 0; i < lying.length; i++) {
                DarkBase b = Dark.with(1, 7, 50, 0, "scoop scoop scoop");
                b.cell(7, ice == 1 ? 2 : 0);
                int costs = 0, had = 0;
                for (int n = 0; n < 3; n++) {
                    b.put(7, ice, lying[i][n]);
                    b.run(1);
                    Due.is("carried", b.has(0, 4), carried[i][n]);
                    Due.is("left", b.told(7, 1 + ice), lying[i][n] - carried[i][n] + had);
                    costs += carried[i][n] > had ? 1 : 0;
                    had = carried[i][n];
                }
                chargeIs(b, "three for each that took some", 50 - 3 * costs);
                Due.is("and two of wear", b.has(0, 3), 2 * costs);
                Due.is("of this", b.has(0, 5), ice);
            }
        }
    }

    /** THE STORE only at the BASE, not on other ROADS; a drop does not wear. */
    private static void whereItDrops() {
        int[] kinds = {0, 2, 3};
        for (int kind : kinds) {
            DarkBase b = Dark.with(1, 7, 50, 0, "scoop drop");
            b.run(1);
            b.cell(7, kind);
            b.run(1);
            Due.is("it is back", b.told(7, 1), 20);
            Due.is("the store has none", b.base(6), 0);
            Due.is("three and one", b.has(0, 2), 46);
            Due.is("two of wear", b.has(0, 3), 2);
        }
        for (int ice = 0; ice < 2; ice++) {
            DarkBase b = Dark.with(1, 7, 50, 0, "scoop drop");
            b.cell(7, ice == 1 ? 2 : 0);
            b.put(7, ice, 20);
            b.run(1);
            b.put(7, ice, 999);
            b.run(1);
            Due.is("no kilo is lost on a full cell", b.told(7, 1 + ice), 1004);
            Due.is("what it was", b.put(7, ice, 3), 1004);
        }
        DarkBase b = Dark.with(1, 0, 50, 0, "scoop drop");
        b.put(0, 0, 7);
        b.run(2);
        Due.is("the base's own dust", b.told(0, 1), 2);
        Due.is("comes to the store", b.base(6), 5);
        b = Dark.with(1, 7, 4, 0, "scoop drop");
        b.run(2);
        Due.is("with the last one", b.told(7, 1), 20);
        chargeIs(b, "none is left", 0);
    }

    private static void wearOfFuses() {
        int[] before = {0, 96, 97, 98, 99};
        int[] due = {3, 99, 100, 100, 100};
        for (int i = 0; i < before.length; i++) {
            DarkBase b = Dark.with(2, 7, 50, before[i], "fuse");
            b.run(1);
            Due.is("wear from " + before[i], b.has(0, 3), due[i]);
            Due.is("it fused", b.told(7, 0), 3);
            Due.is("broken", b.has(0, 7), due[i] == 100 ? 1 : 0);
        }
        int[] scooped = {97, 98, 99};
        for (int wear : scooped) {
            DarkBase b = Dark.with(1, 7, 50, wear, "scoop");
            b.run(1);
            Due.is("scoop from " + wear, b.has(0, 3), Math.min(100, wear + 2));
            Due.is("it scooped", b.has(0, 4), 5);
        }
    }

    private static void dustOfFuses() {
        int[] dust = {9, 10, 11, 0, 999};
        for (int kilos : dust) {
            for (int charge = 5; charge < 8; charge++) {
                DarkBase b = Dark.with(2, 7, charge, 0, "fuse");
                b.put(7, 0, kilos);
                b.run(1);
                boolean can = kilos >= 10 && charge >= 6;
                Due.is("a road", b.told(7, 0), can ? 3 : 0);
                Due.is("dust", b.told(7, 1), can ? kilos - 10 : kilos);
                Due.is("fused", b.kilos(3), can ? 10 : 0);
                Due.is("kilos", b.kilos(5), 22 * 20 + kilos);
                chargeIs(b, "six", can ? charge - 6 : charge);
                Due.is("three of wear", b.has(0, 3), can ? 3 : 0);
            }
        }
        int[] fusers = {0, 0, 1, 0};
        for (int kind = 0; kind < 4; kind++) {
            DarkBase b = Dark.with(kind, 7, 50, 0, "fuse");
            b.run(1);
            Due.is("kind " + kind, b.kilos(3), 10 * fusers[kind]);
        }
        int[] cells = {2, 3};
        for (int kind : cells) {
            DarkBase b = Dark.with(2, 7, 50, 0, "fuse");
            b.cell(7, kind);
            b.run(1);
            Due.is("only on kind 0", b.told(7, 0), kind);
            Due.is("nothing is fused", b.kilos(3), 0);
            chargeIs(b, "nothing is paid", 50);
        }
    }

    private static void edgesOfCharge() {
        int[][] had = {{80, 99}, {81, 99}, {79, 99}, {100, 99}, {50, 20}, {50, 19}, {50, 0}, {99, 1}, {1, 21}};
        for (int[] h : had) {
            DarkBase b = Dark.with(0, 0, h[0], 0, "charge wait");
            b.rule(2, h[1]);
            b.run(1);
            int given = Math.min(20, Math.min(100 - h[0], h[1]));
            chargeIs(b, "charge from " + h[0] + " of " + h[1], h[0] + given);
            Due.is("the bank", b.base(2), h[1] - given);
            b.run(1);
            Due.is("it took the tick", b.has(0, 6), 0);
        }
    }

    private static void onlyAtTheBase() {
        int[] kinds = {0, 2, 3};
        for (int kind : kinds) {
            DarkBase b = Dark.with(0, 1, 50, 0, "charge");
            b.cell(1, kind);
            b.run(1);
            chargeIs(b, "not on kind " + kind, 50);
            Due.is("the bank", b.base(2), 110);
        }
    }

    private static void edgesOfMends() {
        int[] before = {0, 1, 29, 30, 31, 99, 100};
        int[] due = {0, 0, 0, 0, 1, 69, 70};
        for (int i = 0; i < before.length; i++) {
            for (int charge = 3; charge < 6; charge++) {
                for (int parts = 0; parts < 3; parts++) {
                    DarkBase b = Dark.with(3, 7, charge, 0, "mend");
                    b.machine(0, 8);
                    b.tune(1, 1, before[i]);
                    b.store(2, parts);
                    b.run(1);
                    boolean can = before[i] > 0 && charge >= 4 && parts > 0;
                    Due.is("wear from " + before[i], b.has(1, 3), can ? due[i] : before[i]);
                    chargeIs(b, "four", can ? charge - 4 : charge);
                    Due.is("a part", b.base(8), can ? parts - 1 : parts);
                    Due.is("it is not worn by it", b.has(0, 3), 0);
                }
            }
        }
        int[] menders = {0, 0, 0, 1};
        for (int kind = 0; kind < 4; kind++) {
            DarkBase b = Dark.with(kind, 7, 50, 0, "mend");
            b.machine(0, 8);
            b.tune(1, 1, 40);
            b.store(2, 1);
            b.run(1);
            Due.is("kind " + kind, b.base(8), 1 - menders[kind]);
        }
    }

    /** The most WEAR of the four beside it, of several the first: right, left, below, above; none further off. */
    private static void bestOfMends() {
        int[] beside = {15, 13, 20, 8};
        for (int mostWorn = 0; mostWorn < 4; mostWorn++) {
            for (int alike = 0; alike < 4; alike++) {
                DarkBase b = Dark.with(3, 14, 50, 0, "mend");
                b.store(2, 5);
                for (int i = 3; i >= 0; i--) {
                    b.machine(0, beside[i]);
                    b.tune(4 - i, 1, i == mostWorn || i == alike ? 60 : 59);
                }
                b.run(1);
                int first = Math.min(mostWorn, alike);
                for (int i = 0; i < 4; i++) {
                    int was = i == mostWorn || i == alike ? 60 : 59;
                    Due.is("beside " + i, b.has(4 - i, 3), i == first ? 30 : was);
                }
            }
        }
        int[] further = {16, 21, 7, 2};
        for (int cell : further) {
            DarkBase b = Dark.with(3, 14, 50, 0, "mend");
            b.store(2, 5);
            b.machine(0, cell);
            b.tune(1, 1, 60);
            b.run(1);
            Due.is("not beside it", b.has(1, 3), 60);
            Due.is("no part", b.base(8), 5);
        }
    }

    private static void mendedInTime() {
        for (int mender = 0; mender < 2; mender++) {
            DarkBase b = Dark.base();
            b.machine(mender == 0 ? 3 : 1, mender == 0 ? 7 : 8);
            b.machine(mender == 0 ? 1 : 3, mender == 0 ? 8 : 7);
            b.store(2, 1);
            b.tune(1 - mender, 1, 100);
            Due.order(b, mender, 0, "mend");
            Due.order(b, 1 - mender, 1, "scoop");
            b.run(1);
            Due.is("mended", b.has(1 - mender, 7), 0);
            Due.is("it acts in this tick, if its number is higher", b.has(1 - mender, 4), mender == 0 ? 5 : 0);
            Due.is("it sends a report in this tick", b.map(8, 3), 1);
            b.run(1);
            Due.is("it acts then", b.has(1 - mender, 4), 5);
        }
    }

    private static void waits() {
        for (int kind = 0; kind < 4; kind++) {
            DarkBase b = Dark.with(kind, 0, 50, 7, "wait wait");
            b.put(0, 0, 50);
            b.store(2, 3);
            b.machine(0, 1);
            b.tune(1, 1, 60);
            b.run(1);
            int[] due = {kind, 0, 50, 7, 0, DarkBase.NONE, 0, 0};
            for (int what = 0; what < due.length; what++) {
                Due.is("wait of kind " + kind, b.has(0, what), due[what]);
            }
            Due.is("the bank", b.base(2), 110);
            Due.is("parts", b.base(8), 3);
            Due.is("beside it", b.has(1, 3), 60);
            Due.is("the dust", b.told(0, 1), 50);
            b.run(2);
            Due.is("a tick for each", b.has(0, 6), DarkBase.NONE);
        }
    }

    /** What does nothing takes the TICK all the same. */
    private static void whatDoesNothing() {
        String[] acts = {"scoop", "drop", "fuse", "charge", "mend", "wait", "until 0", "go 9 9"};
        for (String act : acts) {
            DarkBase b = Dark.with(0, 7, 50, 0, act + " go 2 1");
            b.run(1);
            Due.is(act + " takes the tick", b.has(0, 1), 7);
            chargeIs(b, act + " costs nothing", 50);
            b.run(1);
            Due.is("behind " + act, b.has(0, 1), act.startsWith("until") ? 7 : 8);
        }
    }

    private static void nothingWithoutCharge() {
        DarkBase b = Dark.with(1, 7, 0, 0, "if 1{wait}drop");
        b.run(3);
        Due.is("it keeps its program", b.has(0, 6), 0);
        Due.is("but sends reports", b.map(7, 3), 3);
        b.tune(0, 0, 1);
        b.run(2);
        Due.is("it had not begun", b.has(0, 6), 0);
        b.tune(0, 0, 0);
        b.run(2);
        Due.is("nor is it found over", b.has(0, 6), 0);
        b.tune(0, 0, 1);
        b.run(1);
        Due.is("it is over", b.has(0, 6), DarkBase.NONE);
        b = Dark.with(1, 7, 50, 100, "wait");
        b.run(5);
        Due.is("a broken one does not end it", b.has(0, 6), 0);
        b.tune(0, 1, 99);
        b.run(1);
        Due.is("it waits", b.has(0, 6), 0);
        b.run(1);
        Due.is("and is over", b.has(0, 6), DarkBase.NONE);
    }

    private static void untilHolds() {
        DarkBase b = Dark.with(1, 7, 50, 0, "until d=15|d=10 scoop until t>9 drop");
        b.run(4);
        Due.is("it holds on", b.has(0, 4), 0);
        b.put(7, 0, 15);
        b.run(1);
        Due.is("on with it in the same tick", b.has(0, 4), 5);
        b.run(10 - b.base(0));
        Due.is("t is 9 and less", b.has(0, 4), 5);
        b.run(1);
        Due.is("t is 10", b.has(0, 4), 0);
        b = Dark.with(1, 7, 50, 0, "until 0-1 until 2 until c-51 scoop");
        b.run(1);
        Due.is("what is not 0 ends it", b.has(0, 4), 5);
        b = Dark.with(1, 7, 50, 0, "until c-50 scoop");
        b.run(2);
        Due.is("0 does not", b.has(0, 4), 0);
        b = Dark.with(1, 7, 50, 0, "if 0-1{if c-51{while 0-1{scoop}}}");
        b.run(1);
        Due.is("nor is what is below 0 no", b.has(0, 4), 5);
    }

    /** 49 that do not take the TICK leave room for what takes it, 50 do not. */
    private static void fiftyOfEachKind() {
        String[] kinds = {"if 0{wait}", "if 0{wait}else{until 1}", "while 0{wait}", "repeat 0{wait}", "until 1", "go 1 1"};
        int[] each = {1, 2, 1, 1, 1, 1};
        for (int i = 0; i < kinds.length; i++) {
            int times = each[i] == 1 ? 24 : 16;
            String most = "repeat " + times + "{" + kinds[i] + "}";
            DarkBase b = Dark.with(1, 7, 50, 0, most + " scoop");
            b.run(1);
            Due.is("49 of " + kinds[i], b.has(0, 4), 5);
            b = Dark.with(1, 7, 50, 0, most + " until 1 scoop");
            b.run(1);
            Due.is("50 of " + kinds[i], b.has(0, 4), 0);
            b.run(1);
            Due.is("then the next tick", b.has(0, 4), 5);
            b = Dark.with(1, 7, 50, 0, most);
            b.run(1);
            Due.is("49, and over", b.has(0, 6), DarkBase.NONE);
            b = Dark.with(1, 7, 50, 0, most + " until 1");
            b.run(1);
            Due.is("50, and not found over", b.has(0, 6), 0);
            b.run(1);
            Due.is("it is found then", b.has(0, 6), DarkBase.NONE);
        }
        DarkBase b = Dark.with(1, 7, 50, 0, "while k=0{if 1{repeat 15{go 1 1 until 1}}scoop}drop");
        b.run(1);
        Due.is("1, 1, 16 and 30 are 48: a scoop", b.has(0, 4), 5);
        b.run(1);
        Due.is("asked anew, it is 0: a drop", b.has(0, 4), 0);
    }

    private static void repeatsAnew() {
        DarkBase b = Dark.with(1, 7, 50, 0, "repeat 3{repeat 2{repeat 1{repeat 2{wait}}}}scoop");
        b.run(12);
        Due.is("twelve waits", b.has(0, 4), 0);
        b.run(1);
        Due.is("then the scoop", b.has(0, 4), 5);
        b = Dark.with(1, 7, 50, 0, "while d>0{repeat 2{if d=20{wait}else{scoop}}if k=10{drop wait}}drop");
        b.put(7, 0, 10);
        b.run(2);
        Due.is("twice", b.has(0, 4), 10);
        b.run(1);
        Due.is("the drop", b.has(0, 4), 0);
        b.run(2);
        Due.is("once, anew", b.has(0, 4), 5);
        b.run(1);
        Due.is("twice, anew", b.has(0, 4), 10);
    }

    private static void longTexts() {
        DarkBase b = Dark.with(1, 7, 100, 0, "wait ".repeat(18) + "scoop");
        b.run(18);
        Due.is("18 waits", b.has(0, 4), 0);
        b.run(1);
        Due.is("and a scoop", b.has(0, 4), 5);
        Due.is("not over", b.has(0, 6), 0);
        b.run(1);
        Due.is("over", b.has(0, 6), DarkBase.NONE);
        String four = "repeat 1{repeat 1{repeat 1{repeat 1{wait}}}}";
        b = Dark.with(1, 7, 100, 0, four + four + "scoop");
        b.run(2);
        Due.is("two waits", b.has(0, 4), 0);
        b.run(1);
        Due.is("behind eight blocks", b.has(0, 4), 5);
        String choice = "if k{drop}else{scoop}";
        b = Dark.with(1, 7, 100, 0, choice + choice + choice + choice + "drop");
        int[] due = {5, 0, 5, 0, 0};
        for (int kilos : due) {
            b.run(1);
            Due.is("one of two", b.has(0, 4), kilos);
        }
        b = Dark.with(1, 7, 100, 0, "if " + "1+".repeat(41) + "1=42{scoop}");
        b.run(1);
        Due.is("42 numbers", b.has(0, 4), 5);
        String e = "7";
        for (int open = 0; open < 8; open++) {
            e = "(1+" + e + ")";
        }
        b = Dark.with(1, 7, 100, 0, "if " + e + "=15{scoop}");
        b.run(1);
        Due.is("eight within one another", b.has(0, 4), 5);
    }

    /** 4096 * 4096 * 128 is the least int, and one less the most. */
    private static void wraps() {
        DarkBase b = Dark.base();
        b.machine(0, 7);
        String least = "4096*4096*128";
        Dark.holds(b, least + "<0", 1);
        Dark.holds(b, least + "-1>0", 1);
        Dark.holds(b, "0-" + least + "=" + least, 1);
        Dark.holds(b, least + "+" + least + "=0", 1);
        Dark.holds(b, least + "-1+1=" + least, 1);
        Dark.holds(b, "(" + least + "-1)*2=0-2", 1);
        Dark.holds(b, "(" + least + "-1)*(" + least + "-1)=1", 1);
        Dark.holds(b, least + "*2", 0);
        Dark.holds(b, "!(" + least + "*2)", 1);
        Dark.holds(b, "4096*4096*256+1=1", 1);
        Dark.holds(b, "9999*9999*9999<0", 1);
        Dark.holds(b, "9999*9999*43=417*9999+3164", 1);
    }

    /** Tests look at both numbers, not at what is left of one less the other. */
    private static void compares() {
        DarkBase b = Dark.base();
        b.machine(0, 7);
        String least = "4096*4096*128";
        Dark.holds(b, least + "<1", 1);
        Dark.holds(b, "1<" + least, 0);
        Dark.holds(b, "1>" + least, 1);
        Dark.holds(b, least + ">1", 0);
        Dark.holds(b, least + "<" + least + "-1", 1);
        Dark.holds(b, least + "-1>" + least, 1);
        Dark.holds(b, least + "=0-" + least, 1);
        Dark.holds(b, "0-1<0", 1);
        Dark.holds(b, "0>0-1", 1);
        Dark.holds(b, "(0-1)&1", 1);
        Dark.holds(b, "1&(0-1)", 1);
        Dark.holds(b, "(0-1)|0", 1);
        Dark.holds(b, "0|(0-1)", 1);
        Dark.holds(b, "((0-1)|0)=1", 1);
        Dark.holds(b, "((0-1)&7)=1", 1);
        Dark.holds(b, "(7|9)=1", 1);
        Dark.holds(b, "!(0-1)", 0);
        Dark.holds(b, "!!(0-1)=1", 1);
        Dark.holds(b, "(3<5)=1&(5<3)=0", 1);
        Dark.holds(b, "2<2|2>2", 0);
    }

    /** A REPORT tells KIND, DUST and ICE behind all acts of its TICK; with LATE 0 it comes at once. */
    private static void reports() {
        DarkBase b = Dark.with(2, 7, 50, 0, "fuse scoop wait wait");
        b.put(7, 1, 6);
        b.put(7, 0, 17);
        b.run(1);
        int[][] due = {{3, 7, 6, 1}, {3, 2, 6, 2}, {2, 2, 6, 3}};
        for (int t = 0; t < due.length; t++) {
            for (int what = 0; what < 4; what++) {
                Due.is("map " + what + " at " + t, b.map(7, what), due[t][what]);
            }
            b.cell(7, t == 1 ? 2 : 3);
            b.run(1);
        }
        Due.is("none is ever on its way", b.count(5), 0);
        b = Dark.with(0, 7, 50, 98, "go 3 1");
        b.run(1);
        Due.is("of where it is now", b.map(8, 3), 1);
        Due.is("not of where it was", b.map(7, 3), DarkBase.NONE);
        b.run(1);
        Due.is("none of one that breaks now", b.map(9, 3), DarkBase.NONE);
    }
}

/**
 * A call that is refused answers, of several, what stands first with it, and changes nothing (but THE TAPE and the
 * numbers that wait, where told): each is held against a twin that was not called, then and some TICKS later.
 */
public final class RefusedTest {
    private static final int BAD = DarkBase.BAD, NO = DarkBase.NO, FULL = DarkBase.FULL, SPENT = DarkBase.SPENT;
    private static final int NONE = DarkBase.NONE, NOTHING = DarkBase.NOTHING, INDEX = DarkBase.INDEX, SIZE = DarkBase.SIZE;
    private static final int LEAST = Integer.MIN_VALUE, MOST = Integer.MAX_VALUE;

    private interface Call {
        int on(DarkBase b);
    }

    private interface Maker {
        DarkBase made();
    }

    private static Maker maker = RefusedTest::some;

    public static void main(String[] args) {
        ofGround();
        ofTheBase();
        ofMachines();
        ofPrograms();
        ofOrders();
        ofLandings();
        ofNights();
        ofWorks();
        ofPlansThatCanNotBePaid();
        ofSheets();
        ofCopies();
        ofWhatIsFull();
        ofTheEndOfTime();
        ofNoImage();
        Due.end();
    }

    /** CELLS 0 to 11: 7 a ROCK, 9 a PIT, 3 a ROAD; MACHINES 0, 1, 2 stay on 1, 9, 2; SHEET 1 is MISSING. */
    private static DarkBase some() {
        DarkBase b = new DarkBase();
        b.ground(4, 3);
        int[] rules = {5, 4, 90, 9, 2};
        for (int which = 0; which < 5; which++) {
            b.rule(which, rules[which]);
        }
        b.load(9, 4);
        b.load(8, 3);
        b.load(20, 9);
        b.work(2, 3, 4, 0);
        b.work(1, 1, 9, 1);
        b.cell(7, 1);
        b.cell(9, 2);
        b.cell(3, 3);
        b.put(9, 1, 30);
        for (int what = 0; what < 3; what++) {
            b.store(what, 11 + what);
        }
        b.machine(2, 1);
        b.machine(1, 9);
        b.machine(3, 2);
        b.tune(0, 1, 50);
        Due.program(b, 0, "fuse repeat 3{scoop wait}drop");
        Due.program(b, 1, "while c>9{scoop drop wait}");
        Due.program(b, 2, "until t=3 mend repeat 9{wait mend}");
        b.send(0, 0);
        b.send(1, 1);
        b.send(2, 2);
        b.run(4);
        b.land(10, 3);
        b.sheet(0, 5);
        b.mark(0, 1, -7);
        b.mark(0, 4, 70);
        b.keep();
        b.send(1, 0);
        b.run(1);
        b.send(0, 2);
        b.rule(2, 400);
        b.tell(391);
        b.tell(4);
        b.feed(0x77616974, 0x20647266, 0x706f2020);
        return b;
    }

    /** Five MACHINES, eight LOADS, six WORKS, twelve ORDERS, a hundred numbers that wait, 93 bytes. */
    private static DarkBase full() {
        DarkBase b = some();
        b.machine(0, 4);
        b.machine(0, 5);
        for (int i = 3; i < 8; i++) {
            b.load(1, 50 + i);
        }
        for (int i = 2; i < 6; i++) {
            b.work(1, 0, 1, i);
        }
        for (int i = 0; i < 12; i++) {
            b.send(i % 5, i % 3);
        }
        for (int i = 0; i < 98; i++) {
            b.tell(i);
        }
        for (int i = 1; i < 8; i++) {
            b.feed(0x77616974, 0x20676f20, 0x31203220);
        }
        b.trim(93);
        return b;
    }

    private static void refused(String what, int due, Call call) {
        held(what, due, call, b -> 0);
    }

    /** The twin does what the call does all the same. */
    private static void held(String what, int due, Call call, Call ofTwin) {
        for (int later = 0; later <= 7; later += 7) {
            DarkBase b = maker.made();
            DarkBase twin = maker.made();
            Due.is(what, call.on(b), due);
            ofTwin.on(twin);
            if (later > 0) {
                Due.is(what + ", later", b.run(later), twin.run(later));
            }
            State.of(b).same(what, State.of(twin));
            State.restOf(b).same(what, State.restOf(twin));
        }
    }

    private static void ofGround() {
        refused("a ground too narrow", BAD, b -> b.ground(1, 3));
        refused("too wide", BAD, b -> b.ground(11, 3));
        refused("too low", BAD, b -> b.ground(4, 1));
        refused("too high", BAD, b -> b.ground(4, 9));
        refused("far too wide", BAD, b -> b.ground(MOST, 3));
        refused("the base becomes a kind", BAD, b -> b.cell(0, 0));
        refused("a cell below", BAD, b -> b.cell(-1, 0));
        refused("a cell behind the last", BAD, b -> b.cell(12, 0));
        refused("a base", BAD, b -> b.cell(5, 4));
        refused("a kind below", BAD, b -> b.cell(5, -1));
        refused("a rock under a machine", NO, b -> b.cell(9, 1));
        refused("kind 5 under a machine", BAD, b -> b.cell(9, 5));
        refused("dust below", BAD, b -> b.put(5, 0, -1));
        refused("dust above", BAD, b -> b.put(5, 0, 1000));
        refused("ice below", BAD, b -> b.put(5, 1, -1));
        refused("ice above", BAD, b -> b.put(5, 1, 1000));
        refused("neither dust nor ice", BAD, b -> b.put(5, 2, 1));
        refused("below dust", BAD, b -> b.put(5, -1, 1));
        refused("put on no cell", BAD, b -> b.put(12, 0, 1));
        refused("put on a cell below", BAD, b -> b.put(-1, 0, 1));
        refused("told of no cell", BAD, b -> b.told(12, 0));
        refused("told what", BAD, b -> b.told(5, 4));
        refused("told what below", BAD, b -> b.told(5, -1));
        refused("is of no kind", BAD, b -> b.isOf(5, 5));
        refused("no cell is of a kind", BAD, b -> b.isOf(12, 0));
        refused("map of no cell", BAD, b -> b.map(12, 0));
        refused("map what", BAD, b -> b.map(11, 4));
        refused("map of nothing known", NONE, b -> b.map(11, 0));
        refused("lay sheet 2", BAD, b -> b.lay(2));
        refused("lay sheet -1", BAD, b -> b.lay(-1));
        refused("lay a missing one", NOTHING, b -> b.lay(1));
        refused("steps from no cell", BAD, b -> b.steps(12, 7));
        refused("steps to no cell", BAD, b -> b.steps(7, -1));
        refused("steps to a rock", NONE, b -> b.steps(0, 7));
        refused("steps that change nothing", 5, b -> b.steps(0, 11));
    }

    private static void ofTheBase() {
        refused("store below", BAD, b -> b.store(1, -1));
        refused("store above", BAD, b -> b.store(1, 10000));
        refused("store what", BAD, b -> b.store(3, 1));
        refused("store what below", BAD, b -> b.store(-1, 1));
        int[] least = {1, 0, 0, 0, 0};
        int[] most = {24, 24, 9999, 99, 9};
        for (int rule = 0; rule < 5; rule++) {
            int which = rule;
            refused("rule below " + rule, BAD, b -> b.rule(which, least[which] - 1));
            refused("rule above " + rule, BAD, b -> b.rule(which, most[which] + 1));
        }
        refused("rule 5", BAD, b -> b.rule(5, 1));
        refused("rule -1", BAD, b -> b.rule(-1, 1));
        refused("power below", BAD, b -> b.load(0, 1));
        refused("power above", BAD, b -> b.load(51, 1));
        refused("harm below", BAD, b -> b.load(1, 0));
        refused("harm above", BAD, b -> b.load(1, 100));
        refused("base 9", BAD, b -> b.base(9));
        refused("base -1", BAD, b -> b.base(-1));
        refused("count 9", BAD, b -> b.count(9));
        refused("count -1", BAD, b -> b.count(-1));
    }

    private static void ofMachines() {
        refused("machine of kind 4", BAD, b -> b.machine(4, 5));
        refused("machine of kind -1", BAD, b -> b.machine(-1, 5));
        refused("machine on no cell", BAD, b -> b.machine(0, 12));
        refused("machine on a cell below", BAD, b -> b.machine(0, -1));
        refused("machine on a rock", NO, b -> b.machine(0, 7));
        refused("machine on machine 0", NO, b -> b.machine(0, 1));
        refused("machine on machine 2", NO, b -> b.machine(0, 2));
        refused("kind 4 on a rock", BAD, b -> b.machine(4, 7));
        refused("no machine is", BAD, b -> b.is(3, 0));
        refused("machine is of kind 4", BAD, b -> b.is(0, 4));
        refused("charge below", BAD, b -> b.tune(0, 0, -1));
        refused("charge above", BAD, b -> b.tune(0, 0, 101));
        refused("wear below", BAD, b -> b.tune(0, 1, -1));
        refused("wear above", BAD, b -> b.tune(0, 1, 101));
        refused("tune what", BAD, b -> b.tune(0, 2, 1));
        refused("tune what below", BAD, b -> b.tune(0, -1, 1));
        refused("tune no machine", BAD, b -> b.tune(3, 0, 1));
        refused("tune a machine below", BAD, b -> b.tune(-1, 0, 1));
        refused("no machine has", BAD, b -> b.has(3, 0));
        refused("has 8", BAD, b -> b.has(0, 8));
    }

    /** BAD is asked first, and THE TAPE is used up by it, too; MACHINES that run a PROGRAM run on. */
    private static void ofPrograms() {
        held("program 6", BAD, b -> b.program(6), b -> b.trim(0));
        held("program -1", BAD, b -> b.program(-1), b -> b.trim(0));
        held("far off", BAD, b -> b.program(LEAST), b -> b.trim(0));
        held("program 6 with a text that has no fault", BAD, b -> b.trim(4) + b.program(6) - 4, b -> b.trim(0));
        held("an empty tape", BAD, b -> b.trim(0) + b.program(6), b -> b.trim(0));
        refused("trim below", BAD, b -> b.trim(-1));
        refused("trim above", BAD, b -> b.trim(13));
        refused("trim far above", BAD, b -> b.trim(MOST));
    }

    private static void ofOrders() {
        refused("send to no machine", BAD, b -> b.send(3, 0));
        refused("send to a machine below", BAD, b -> b.send(-1, 0));
        refused("send no program", BAD, b -> b.send(0, 6));
        refused("send a program below", BAD, b -> b.send(0, -1));
        refused("send an empty one", NO, b -> b.send(0, 3));
        refused("send an empty one to no machine", BAD, b -> b.send(3, 3));
        refused("order below", BAD, b -> b.order(-1, 0));
        refused("order what", BAD, b -> b.order(0, 3));
        refused("order what below", BAD, b -> b.order(0, -1));
        refused("not so many orders", NONE, b -> b.order(2, 0));
        refused("not so many, and what", BAD, b -> b.order(2, 3));
        refused("run 0", BAD, b -> b.run(0));
        refused("run -1", BAD, b -> b.run(-1));
        refused("run 31", BAD, b -> b.run(31));
        refused("run far too long", BAD, b -> b.run(MOST));
    }

    private static void ofLandings() {
        refused("land on no cell", BAD, b -> b.land(12, 1));
        refused("land below", BAD, b -> b.land(-1, 1));
        refused("parts below", BAD, b -> b.land(10, -1));
        refused("parts above", BAD, b -> b.land(10, 100));
        refused("land on a rock", NO, b -> b.land(7, 1));
        refused("land on the base", NO, b -> b.land(0, 1));
        refused("land on machine 0", NO, b -> b.land(1, 1));
        refused("land on machine 1", NO, b -> b.land(9, 1));
        refused("land on a rock with too many parts", BAD, b -> b.land(7, 100));
        refused("kilos 6", BAD, b -> b.kilos(6));
        refused("kilos -1", BAD, b -> b.kilos(-1));
    }

    /** The numbers that wait do not after check, whatever is answered. */
    private static void ofNights() {
        refused("night 0", BAD, b -> b.night(0));
        refused("night 25", BAD, b -> b.night(25));
        refused("cut 0", BAD, b -> b.cut(0));
        refused("cut 25", BAD, b -> b.cut(25));
        held("check 2", BAD, b -> b.check(2, 2), b -> b.check(1, 1));
        held("check -1", BAD, b -> b.check(-1, 2), b -> b.check(1, 1));
        held("check of a plan of 0", BAD, b -> b.check(0, 0), b -> b.check(1, 1));
        held("check of a plan of 25", BAD, b -> b.check(0, 25), b -> b.check(1, 1));
        held("check of a night of 0", BAD, b -> b.check(1, 0), b -> b.check(1, 1));
        held("check of a night of 25", BAD, b -> b.check(1, 25), b -> b.check(1, 1));
    }

    private static void ofWorks() {
        refused("hours below", BAD, b -> b.work(0, 1, 1, 0));
        refused("hours above", BAD, b -> b.work(10, 1, 1, 0));
        refused("a work's power below", BAD, b -> b.work(1, -1, 1, 0));
        refused("a work's power above", BAD, b -> b.work(1, 51, 1, 0));
        refused("gain below", BAD, b -> b.work(1, 1, -1, 0));
        refused("gain above", BAD, b -> b.work(1, 1, 21, 0));
        refused("ahead below", BAD, b -> b.work(1, 1, 1, -1));
        refused("itself ahead", BAD, b -> b.work(1, 1, 1, 4));
        refused("far off ahead", BAD, b -> b.work(1, 1, 1, LEAST));
        refused("a plan for 0", BAD, b -> b.plan(0, 9));
        refused("a plan for 25", BAD, b -> b.plan(25, 9));
        refused("no tries", BAD, b -> b.plan(5, 0));
        refused("too many tries", BAD, b -> b.plan(5, 20001));
        refused("spent", SPENT, b -> b.plan(5, 1));
        refused("planned for 0", BAD, b -> b.planned(0, 9, 0));
        refused("planned for 25", BAD, b -> b.planned(25, 9, 0));
        refused("planned with no tries", BAD, b -> b.planned(5, 0, 0));
        refused("planned with too many", BAD, b -> b.planned(5, 20001, 0));
        refused("planned i below", BAD, b -> b.planned(5, 9, -1));
        refused("planned i below, and spent", BAD, b -> b.planned(5, 1, -1));
        refused("planned, spent", SPENT, b -> b.planned(5, 1, 0));
        refused("planned, spent, and not so many", SPENT, b -> b.planned(5, 1, 9));
        refused("planned, not so many", NONE, b -> b.planned(5, 9, 2));
    }

    private static void ofPlansThatCanNotBePaid() {
        maker = () -> {
            DarkBase b = some();
            b.rule(2, 20);
            b.work(1, 0, 0, 0);
            return b;
        };
        refused("no plan", NO, b -> b.plan(5, 2));
        refused("no plan, but spent ahead of it", SPENT, b -> b.plan(5, 1));
        refused("none planned", NO, b -> b.planned(5, 9, 0));
        refused("none planned, and not so many", NO, b -> b.planned(5, 9, 9));
        held("check of no plan", NO, b -> b.check(0, 5), b -> b.check(1, 1));
        held("check of no plan for 0", BAD, b -> b.check(0, 0), b -> b.check(1, 1));
        maker = RefusedTest::some;
    }

    private static void ofSheets() {
        refused("sheet 2", BAD, b -> b.sheet(2, 1));
        refused("sheet -1", BAD, b -> b.sheet(-1, 1));
        refused("81 places", BAD, b -> b.sheet(0, 81));
        refused("-1 places", SIZE, b -> b.sheet(0, -1));
        refused("-1 places for a missing one", SIZE, b -> b.sheet(1, -1));
        refused("-1 places of sheet 2", BAD, b -> b.sheet(2, -1));
        refused("mark sheet 2", BAD, b -> b.mark(2, 0, 1));
        refused("mark sheet -1", BAD, b -> b.mark(-1, 9, 1));
        refused("mark a missing one", NOTHING, b -> b.mark(1, 0, 1));
        refused("mark no place of a missing one", NOTHING, b -> b.mark(1, -1, 1));
        refused("mark behind the last", INDEX, b -> b.mark(0, 5, 1));
        refused("mark below", INDEX, b -> b.mark(0, -1, 1));
    }

    private static void ofCopies() {
        int[] none = {2, -1, MOST, LEAST};
        for (int s : none) {
            refused("copy from " + s, BAD, b -> b.copy(s, 0, 0, 0, 1));
            refused("copy to " + s, BAD, b -> b.copy(0, 0, s, 0, 1));
            refused("copy from " + s + " to a missing one", BAD, b -> b.copy(s, 9, 1, 9, -1));
            refused("copy from a missing one to " + s, BAD, b -> b.copy(1, 9, s, 9, -1));
        }
        refused("copy to a missing one", NOTHING, b -> b.copy(0, 0, 1, 0, 1));
        refused("copy from a missing one", NOTHING, b -> b.copy(1, 0, 0, 0, 1));
        refused("copy none of a missing one", NOTHING, b -> b.copy(1, 0, 1, 0, 0));
        refused("copy no place to a missing one", NOTHING, b -> b.copy(0, 9, 1, 0, 1));
        refused("copy from below", INDEX, b -> b.copy(0, -1, 0, 0, 1));
        refused("copy to below", INDEX, b -> b.copy(0, 0, 0, -1, 1));
        refused("copy from behind the last", INDEX, b -> b.copy(0, 5, 0, 0, 1));
        refused("copy to behind the last", INDEX, b -> b.copy(0, 0, 0, 5, 1));
        refused("copy one too many from", INDEX, b -> b.copy(0, 1, 0, 0, 5));
        refused("copy one too many to", INDEX, b -> b.copy(0, 0, 0, 1, 5));
        refused("copy -1", INDEX, b -> b.copy(0, 0, 0, 0, -1));
        refused("copy far too many", INDEX, b -> b.copy(0, 1, 0, 1, MOST));
        refused("copy far below 0", INDEX, b -> b.copy(0, 1, 0, 1, LEAST));
        refused("copy none from further than behind the last", INDEX, b -> b.copy(0, 6, 0, 0, 0));
        refused("copy none to further than behind the last", INDEX, b -> b.copy(0, 0, 0, 6, 0));
        refused("copy none from below", INDEX, b -> b.copy(0, -1, 0, 0, 0));
        refused("copy none changes nothing", 0, b -> b.copy(0, 5, 0, 5, 0));
    }

    private static void ofWhatIsFull() {
        maker = RefusedTest::full;
        refused("a sixth machine", FULL, b -> b.machine(0, 0));
        refused("a sixth machine on a rock", NO, b -> b.machine(0, 7));
        refused("a sixth machine on another", NO, b -> b.machine(0, 5));
        refused("a sixth machine of kind 4", BAD, b -> b.machine(4, 0));
        refused("a ninth load", FULL, b -> b.load(1, 1));
        refused("a ninth load of no power", BAD, b -> b.load(0, 1));
        refused("a seventh work", FULL, b -> b.work(1, 1, 1, 63));
        refused("a seventh work of no hours", BAD, b -> b.work(0, 1, 1, 0));
        refused("a seventh work behind itself", BAD, b -> b.work(1, 1, 1, 64));
        refused("a thirteenth order", FULL, b -> b.send(0, 0));
        refused("a thirteenth order of an empty program", NO, b -> b.send(0, 4));
        refused("a thirteenth order to no machine", BAD, b -> b.send(5, 0));
        refused("number 101", FULL, b -> b.tell(7));
        refused("more than 96 bytes", FULL, b -> b.feed(1, 2, 3));
        maker = () -> {
            DarkBase b = full();
            b.trim(85);
            return b;
        };
        refused("one byte more than 96", FULL, b -> b.feed(1, 2, 3));
        maker = RefusedTest::some;
    }

    private static void ofTheEndOfTime() {
        maker = () -> {
            DarkBase b = some();
            for (int n = 0; n < 66; n++) {
                b.run(30);
            }
            b.run(4);
            return b;
        };
        Due.is("tick", maker.made().base(0), 1989);
        refused("2001 ticks", FULL, b -> b.run(12));
        refused("2019 ticks", FULL, b -> b.run(30));
        refused("31 is bad first", BAD, b -> b.run(31));
        maker = RefusedTest::some;
    }

    private static void ofNoImage() {
        maker = () -> {
            DarkBase b = new DarkBase();
            b.machine(1, 3);
            b.run(2);
            return b;
        };
        refused("no image", NO, b -> b.back());
        maker = RefusedTest::some;
    }
}

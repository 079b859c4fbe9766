/** A base on dust that has no air, run TICK by TICK through days and nights of fourteen days. */
public final class DarkBase {
    public static final int BAD = -1000000001;
    public static final int NO = -1000000002;
    public static final int FULL = -1000000003;
    public static final int SPENT = -1000000004;
    public static final int NONE = -1000000005;
    public static final int NOTHING = -1000000011;
    public static final int INDEX = -1000000013;
    public static final int SIZE = -1000000014;

    private static final int MOST_CELLS = 80;
    private static final int MOST_MACHINES = 5;
    private static final int MOST_LOADS = 8;
    private static final int MOST_PROGRAMS = 6;
    private static final int MOST_ORDERS = 12;
    /** Five MACHINES send one each TICK, and none is on its way for more than nine TICKS. */
    private static final int MOST_REPORTS = 50;
    private static final int MOST_WORKS = 6;
    private static final int MOST_TRIES = 20000;
    private static final int MOST_WAITING = 100;
    private static final int MOST_BYTES = 96;
    private static final int MOST_PLACES = 80;
    private static final int MOST_TICKS = 2000;
    private static final int MOST_HOURS = 24;
    private static final int MOST_STORED = 9999;
    private static final int MOST_ON_CELL = 999;
    private static final int MOST_CARRIED = 10;

    private static final int GROUND = 0, ROCK = 1, PIT = 2, ROAD = 3, BASE = 4;
    private static final int ROVER = 0, SCOOPER = 1, FUSER = 2, MENDER = 3;
    private static final int DUST = 0, ICE = 1, PARTS = 2;

    /** For each KIND the one that it is a kind of; -1: it stands by itself. */
    private static final int[] CELL_IS_ALSO = {-1, -1, GROUND, GROUND, ROAD};
    private static final int[] MACHINE_IS_ALSO = {-1, ROVER, SCOOPER, ROVER};

    /** By the number of the rule: LIGHT, DARK, THE BANK, PANELS, LATE. */
    private static final int[] LEAST_RULE = {1, 0, 0, 0, 0};
    private static final int[] MOST_RULE = {24, 24, 9999, 99, 9};

    private final Site now;
    private final Site image;
    private boolean kept;
    private final Runner runner;
    private final Row tape;
    private final Parser parser;
    private final Row waiting;
    private final Row due;
    private final Sheets sheets;

    public DarkBase() {
        now = new Site();
        image = new Site();
        kept = false;
        runner = new Runner(now);
        tape = new Row(MOST_BYTES);
        parser = new Parser(tape);
        waiting = new Row(MOST_WAITING);
        due = new Row(2 * MOST_HOURS);
        sheets = new Sheets();
    }

    // ---- ground

    public int ground(int wide, int high) {
        if (!within(wide, 2, 10) || !within(high, 2, 8)) {
            return BAD;
        }
        now.renew(wide, high);
        return now.ground.cells();
    }

    public int cell(int cell, int kind) {
        Ground ground = now.ground;
        if (cell == 0 || !ground.holds(cell) || !within(kind, GROUND, ROAD)) {
            return BAD;
        }
        if (kind == ROCK && now.machineOn(cell) >= 0) {
            return NO;
        }
        return ground.kinds.swap(cell, kind);
    }

    public int put(int cell, int what, int v) {
        Ground ground = now.ground;
        if (!ground.holds(cell) || !within(what, DUST, ICE) || !within(v, 0, MOST_ON_CELL)) {
            return BAD;
        }
        return ground.kilosOf(what).swap(cell, v);
    }

    public int told(int cell, int what) {
        Ground ground = now.ground;
        if (!ground.holds(cell)) {
            return BAD;
        }
        switch (what) {
            case 0:
                return ground.kinds.at(cell);
            case 1:
                return ground.dust.at(cell);
            case 2:
                return ground.ice.at(cell);
            case 3:
                return orNone(now.machineOn(cell));
            default:
                return BAD;
        }
    }

    public int isOf(int cell, int kind) {
        if (!now.ground.holds(cell) || !within(kind, GROUND, BASE)) {
            return BAD;
        }
        return asBit(now.ground.isA(cell, kind));
    }

    public int map(int cell, int what) {
        if (!now.ground.holds(cell) || !within(what, 0, 3)) {
            return BAD;
        }
        return now.ground.known(cell, what);
    }

    public int lay(int sheet) {
        if (!within(sheet, 0, 1)) {
            return BAD;
        }
        if (!sheets.isThere(sheet)) {
            return NOTHING;
        }
        int many = Math.min(now.ground.cells(), sheets.places(sheet));
        for (int cell = 0; cell < many; cell++) {
            int kilos = sheets.at(sheet, cell);
            now.ground.dust.set(cell, within(kilos, 0, MOST_ON_CELL) ? kilos : 0);
        }
        return many;
    }

    public int steps(int cell, int other) {
        if (!now.ground.holds(cell) || !now.ground.holds(other)) {
            return BAD;
        }
        now.ground.measure(other);
        return orNone(now.ground.far.at(cell));
    }

    // ---- base

    public int store(int what, int v) {
        if (!within(what, DUST, PARTS) || !within(v, 0, MOST_STORED)) {
            return BAD;
        }
        return now.ground.store.swap(what, v);
    }

    public int rule(int which, int v) {
        if (which < 0 || which >= LEAST_RULE.length || which >= MOST_RULE.length) {
            return BAD;
        }
        if (!within(v, LEAST_RULE[which], MOST_RULE[which])) {
            return BAD;
        }
        return now.power.change(which, v);
    }

    public int load(int power, int harm) {
        if (!within(power, 1, 50) || !within(harm, 1, 99)) {
            return BAD;
        }
        if (now.power.loads() >= MOST_LOADS) {
            return FULL;
        }
        return now.power.addLoad(power, harm);
    }

    public int base(int what) {
        Power power = now.power;
        switch (what) {
            case 0:
                return power.tick;
            case 1:
                return asBit(power.isLight());
            case 2:
                return power.bank;
            case 3:
                return power.panels;
            case 4:
                return power.harm;
            case 5:
                return power.shed;
            case 6:
                return now.ground.store.at(DUST);
            case 7:
                return now.ground.store.at(ICE);
            case 8:
                return now.ground.store.at(PARTS);
            default:
                return BAD;
        }
    }

    // ---- machines, programs, orders

    public int machine(int kind, int cell) {
        if (!within(kind, ROVER, MENDER) || !now.ground.holds(cell)) {
            return BAD;
        }
        if (!now.ground.isOpen(cell) || now.machineOn(cell) >= 0) {
            return NO;
        }
        if (now.many >= MOST_MACHINES) {
            return FULL;
        }
        return now.addMachine(kind, cell);
    }

    public int is(int machine, int kind) {
        Machine it = now.worker(machine);
        if (it == null || !within(kind, ROVER, MENDER)) {
            return BAD;
        }
        return asBit(it.isA(kind));
    }

    public int tune(int machine, int what, int v) {
        Machine it = now.worker(machine);
        if (it == null || !within(what, 0, 1) || !within(v, 0, 100)) {
            return BAD;
        }
        int was = what == 0 ? it.charge : it.wear;
        if (what == 0) {
            it.charge = v;
        } else {
            it.wear = v;
        }
        return was;
    }

    public int has(int machine, int what) {
        Machine it = now.worker(machine);
        if (it == null) {
            return BAD;
        }
        switch (what) {
            case 0:
                return it.kind;
            case 1:
                return it.cell;
            case 2:
                return it.charge;
            case 3:
                return it.wear;
            case 4:
                return it.carried;
            case 5:
                return it.carried > 0 ? it.cargo : NONE;
            case 6:
                return orNone(it.script);
            case 7:
                return asBit(it.isBroken());
            default:
                return BAD;
        }
    }

    public int feed(int a, int b, int c) {
        if (tape.size() + 12 > MOST_BYTES) {
            return FULL;
        }
        addBytes(a);
        addBytes(b);
        addBytes(c);
        return tape.size();
    }

    public int trim(int n) {
        if (!within(n, 0, tape.size())) {
            return BAD;
        }
        tape.shorten(n);
        return n;
    }

    public int program(int program) {
        Program script = now.script(program);
        if (script == null) {
            tape.shorten(0);
            return BAD;
        }
        int fault = parser.read();
        tape.shorten(0);
        now.endScript(program);
        if (fault >= 0) {
            script.empty();
            return -100 - fault;
        }
        script.become(parser.draft);
        return script.statements;
    }

    public int send(int machine, int program) {
        Program script = now.script(program);
        if (now.worker(machine) == null || script == null) {
            return BAD;
        }
        if (script.isEmpty()) {
            return NO;
        }
        if (now.ordersOnWay() >= MOST_ORDERS) {
            return FULL;
        }
        return now.addOrder(machine, program);
    }

    public int order(int i, int what) {
        if (i < 0 || !within(what, 0, 2)) {
            return BAD;
        }
        if (i >= now.ordersOnWay()) {
            return NONE;
        }
        return now.orders.at(i * Site.ORDER + what);
    }

    public int run(int n) {
        if (!within(n, 1, 30)) {
            return BAD;
        }
        if (now.power.tick + n > MOST_TICKS) {
            return FULL;
        }
        for (int t = 0; t < n; t++) {
            runner.passTick();
        }
        return now.power.tick;
    }

    public int land(int cell, int parts) {
        Ground ground = now.ground;
        if (!ground.holds(cell) || !within(parts, 0, 99)) {
            return BAD;
        }
        if (cell == 0 || !ground.isOpen(cell) || now.machineOn(cell) >= 0) {
            return NO;
        }
        ground.blast(cell);
        ground.store.set(PARTS, Math.min(MOST_STORED, ground.store.at(PARTS) + parts));
        return now.shake(cell);
    }

    public int kilos(int what) {
        Ground ground = now.ground;
        switch (what) {
            case 0:
                return ground.dust.sum(ground.cells());
            case 1:
                return now.dustCarried();
            case 2:
                return ground.store.at(DUST);
            case 3:
                return ground.fused;
            case 4:
                return ground.lost;
            case 5:
                return ground.dust.sum(ground.cells()) + now.dustCarried()
                    + ground.store.at(DUST) + ground.fused + ground.lost;
            default:
                return BAD;
        }
    }

    // ---- nights, works

    public int night(int n) {
        return within(n, 1, MOST_HOURS) ? now.power.harmOf(now.power.leastCut(n)) : BAD;
    }

    public int cut(int n) {
        return within(n, 1, MOST_HOURS) ? now.power.leastCut(n) : BAD;
    }

    public int work(int hours, int power, int gain, int ahead) {
        Works works = now.works;
        if (!within(hours, 1, 9) || !within(power, 0, 50) || !within(gain, 0, 20)) {
            return BAD;
        }
        if (!within(ahead, 0, (1 << works.many()) - 1)) {
            return BAD;
        }
        if (works.many() >= MOST_WORKS) {
            return FULL;
        }
        return works.addWork(hours, power, gain, ahead);
    }

    public int clear() {
        int were = now.works.many();
        now.works.empty();
        return were;
    }

    public int plan(int n, int tries) {
        if (!within(n, 1, MOST_HOURS) || !within(tries, 1, MOST_TRIES)) {
            return BAD;
        }
        return now.works.find(n, tries, now.power);
    }

    public int planned(int n, int tries, int i) {
        if (!within(n, 1, MOST_HOURS) || !within(tries, 1, MOST_TRIES) || i < 0) {
            return BAD;
        }
        int found = now.works.find(n, tries, now.power);
        if (found < 0) {
            return found;
        }
        return i < now.works.best.size() ? now.works.best.at(i) : NONE;
    }

    public int tell(int v) {
        return waiting.add(v) ? waiting.size() : FULL;
    }

    public int check(int what, int n) {
        int answer = compareWaiting(what, n);
        waiting.shorten(0);
        return answer;
    }

    // ---- images, sheets

    public int keep() {
        image.become(now);
        kept = true;
        return now.power.tick;
    }

    public int back() {
        if (!kept) {
            return NO;
        }
        now.become(image);
        return now.power.tick;
    }

    public int sheet(int s, int n) {
        if (!within(s, 0, 1) || n > MOST_PLACES) {
            return BAD;
        }
        if (n < 0) {
            return SIZE;
        }
        sheets.begin(s, n);
        return n;
    }

    public int mark(int s, int place, int v) {
        if (!within(s, 0, 1)) {
            return BAD;
        }
        if (!sheets.isThere(s)) {
            return NOTHING;
        }
        if (place < 0 || place >= sheets.places(s)) {
            return INDEX;
        }
        return sheets.swap(s, place, (short) v);
    }

    public int copy(int from, int place, int to, int at, int many) {
        if (!within(from, 0, 1) || !within(to, 0, 1)) {
            return BAD;
        }
        if (!sheets.isThere(from) || !sheets.isThere(to)) {
            return NOTHING;
        }
        if (!sheets.hasPart(from, place, many) || !sheets.hasPart(to, at, many)) {
            return INDEX;
        }
        sheets.move(from, place, to, at, many);
        return many;
    }

    public int count(int what) {
        switch (what) {
            case 0:
                return now.ground.cells();
            case 1:
                return now.many;
            case 2:
                return now.power.loads();
            case 3:
                return now.scriptsTold();
            case 4:
                return now.ordersOnWay();
            case 5:
                return now.reportsOnWay();
            case 6:
                return now.works.many();
            case 7:
                return waiting.size();
            case 8:
                return tape.size();
            default:
                return BAD;
        }
    }

    // ---- what the calls share

    private static boolean within(int v, int least, int most) {
        return v >= least && v <= most;
    }

    private static int asBit(boolean so) {
        return so ? 1 : 0;
    }

    private static int orNone(int number) {
        return number < 0 ? NONE : number;
    }

    private static boolean isUnder(int[] isAlso, int kind, int wanted) {
        int k = kind;
        for (int n = 0; n < isAlso.length && k >= 0 && k < isAlso.length; n++) {
            if (k == wanted) {
                return true;
            }
            k = isAlso[k];
        }
        return false;
    }

    private void addBytes(int number) {
        for (int shift = 24; shift >= 0; shift -= 8) {
            tape.add((number >>> shift) & 255);
        }
    }

    private int compareWaiting(int what, int n) {
        if (!within(what, 0, 1) || !within(n, 1, MOST_HOURS)) {
            return BAD;
        }
        due.shorten(0);
        if (what == 0) {
            int found = now.works.find(n, MOST_TRIES, now.power);
            if (found < 0) {
                return found;
            }
            now.works.listRows(now.power, due);
        } else {
            now.power.listNight(n, due);
        }
        int alike = waiting.alike(due);
        return alike == due.size() && alike == waiting.size() ? 0 : 1 + alike;
    }

    /** A row of ints with a fixed room; places outside it read as 0 and take nothing. */
    private static final class Row {
        private final int[] places;
        private int used;

        Row(int room) {
            places = new int[Math.max(0, room)];
            used = 0;
        }

        int size() {
            return used;
        }

        int at(int i) {
            return i >= 0 && i < places.length ? places[i] : 0;
        }

        void set(int i, int v) {
            if (i >= 0 && i < places.length) {
                places[i] = v;
            }
        }

        int swap(int i, int v) {
            int was = at(i);
            set(i, v);
            return was;
        }

        boolean add(int v) {
            if (used < 0 || used >= places.length) {
                return false;
            }
            places[used] = v;
            used++;
            return true;
        }

        int pop() {
            if (used <= 0) {
                return 0;
            }
            used--;
            return at(used);
        }

        void shorten(int n) {
            used = Math.max(0, Math.min(n, used));
        }

        void fill(int n, int v) {
            used = Math.max(0, Math.min(n, places.length));
            for (int i = 0; i < used && i < places.length; i++) {
                places[i] = v;
            }
        }

        int sum(int n) {
            int all = 0;
            for (int i = 0; i < n && i < places.length; i++) {
                all += places[i];
            }
            return all;
        }

        int alike(Row other) {
            int most = Math.min(used, other.used);
            for (int i = 0; i < most; i++) {
                if (at(i) != other.at(i)) {
                    return i;
                }
            }
            return most;
        }

        void become(Row other) {
            int many = Math.min(places.length, other.places.length);
            System.arraycopy(other.places, 0, places, 0, many);
            used = other.used;
        }

        /** Overlapping parts come as they were, since arraycopy minds that. */
        void take(Row other, int place, int at, int many) {
            if (place < 0 || at < 0 || many < 0) {
                return;
            }
            if (place <= other.places.length - many && at <= places.length - many) {
                System.arraycopy(other.places, place, places, at, many);
            }
        }
    }

    /** CELLS, what lies on and in them, THE MAP of them, and THE STORE. */
    private static final class Ground {
        static final int WAYS = 4;
        private static final int SEEN = 4;
        private static final int SEEN_TICK = 3;

        int wide;
        int high;
        final Row kinds;
        final Row dust;
        final Row ice;
        final Row seen;
        final Row store;
        int fused;
        int lost;
        final Row far;
        private final Row queue;

        Ground() {
            kinds = new Row(MOST_CELLS);
            dust = new Row(MOST_CELLS);
            ice = new Row(MOST_CELLS);
            seen = new Row(SEEN * MOST_CELLS);
            store = new Row(3);
            far = new Row(MOST_CELLS);
            queue = new Row(MOST_CELLS);
            begin(6, 4);
        }

        void begin(int newWide, int newHigh) {
            wide = newWide;
            high = newHigh;
            kinds.fill(cells(), GROUND);
            kinds.set(0, BASE);
            dust.fill(cells(), 20);
            dust.set(0, 0);
            ice.fill(cells(), 0);
            seen.fill(SEEN * cells(), -1);
            store.fill(3, 0);
            fused = 0;
            lost = 0;
        }

        void become(Ground other) {
            wide = other.wide;
            high = other.high;
            kinds.become(other.kinds);
            dust.become(other.dust);
            ice.become(other.ice);
            seen.become(other.seen);
            store.become(other.store);
            fused = other.fused;
            lost = other.lost;
        }

        int cells() {
            return wide * high;
        }

        boolean holds(int cell) {
            return cell >= 0 && cell < cells();
        }

        int column(int cell) {
            return wide > 0 ? cell % wide : 0;
        }

        int line(int cell) {
            return wide > 0 ? cell / wide : 0;
        }

        Row kilosOf(int what) {
            return what == ICE ? ice : dust;
        }

        boolean isA(int cell, int kind) {
            return isUnder(CELL_IS_ALSO, kinds.at(cell), kind);
        }

        boolean isOpen(int cell) {
            return kinds.at(cell) != ROCK;
        }

        /** The CELL right (0), left (1), below (2), above (3); -1: the ground ends there. */
        int beside(int cell, int way) {
            switch (way) {
                case 0:
                    return column(cell) + 1 < wide ? cell + 1 : -1;
                case 1:
                    return column(cell) > 0 ? cell - 1 : -1;
                case 2:
                    return line(cell) + 1 < high ? cell + wide : -1;
                default:
                    return line(cell) > 0 ? cell - wide : -1;
            }
        }

        int apart(int cell, int other) {
            return Math.abs(column(cell) - column(other)) + Math.abs(line(cell) - line(other));
        }

        /** Fills far with each CELL's fewest steps to the target; -1: there is no way. */
        void measure(int target) {
            far.fill(cells(), -1);
            queue.shorten(0);
            if (isOpen(target)) {
                far.set(target, 0);
                queue.add(target);
            }
            for (int head = 0; head < MOST_CELLS && head < queue.size(); head++) {
                int cell = queue.at(head);
                for (int way = 0; way < WAYS; way++) {
                    int next = beside(cell, way);
                    if (next >= 0 && isOpen(next) && far.at(next) < 0) {
                        far.set(next, far.at(cell) + 1);
                        queue.add(next);
                    }
                }
            }
        }

        /** The CELL to step onto from a CELL on the way to the target; -1: there is no way. */
        int stepTowards(int cell, int target) {
            measure(target);
            int best = -1;
            for (int way = 0; way < WAYS; way++) {
                int next = beside(cell, way);
                if (next >= 0 && far.at(next) >= 0 && (best < 0 || far.at(next) < far.at(best))) {
                    best = next;
                }
            }
            return best;
        }

        void blast(int center) {
            for (int cell = 0; cell < cells(); cell++) {
                if (kinds.at(cell) == GROUND && apart(cell, center) <= 1) {
                    int half = dust.at(cell) / 2;
                    dust.set(cell, dust.at(cell) - half);
                    lost += half;
                }
            }
        }

        /** What THE MAP knows: what 0 KIND, 1 DUST, 2 ICE, 3 the TICK. */
        int known(int cell, int what) {
            int at = cell * SEEN;
            return seen.at(at + SEEN_TICK) < 0 ? NONE : seen.at(at + what);
        }

        void learn(int cell, int kind, int dustThere, int iceThere, int tick) {
            int at = cell * SEEN;
            seen.set(at, kind);
            seen.set(at + 1, dustThere);
            seen.set(at + 2, iceThere);
            seen.set(at + SEEN_TICK, tick);
        }
    }

    /** The TICK, the rules, THE BANK and the LOADS that it pays. */
    private static final class Power {
        int tick;
        int light;
        int dark;
        int bank;
        int panels;
        int late;
        int harm;
        int shed;
        final Row loadPower;
        final Row loadHarm;

        Power() {
            loadPower = new Row(MOST_LOADS);
            loadHarm = new Row(MOST_LOADS);
            tick = 0;
            light = 14;
            dark = 14;
            bank = 100;
            panels = 10;
            late = 3;
            harm = 0;
            shed = 0;
        }

        void become(Power other) {
            tick = other.tick;
            light = other.light;
            dark = other.dark;
            bank = other.bank;
            panels = other.panels;
            late = other.late;
            harm = other.harm;
            shed = other.shed;
            loadPower.become(other.loadPower);
            loadHarm.become(other.loadHarm);
        }

        int change(int which, int v) {
            int was;
            switch (which) {
                case 0:
                    was = light;
                    light = v;
                    return was;
                case 1:
                    was = dark;
                    dark = v;
                    return was;
                case 2:
                    was = bank;
                    bank = v;
                    return was;
                case 3:
                    was = panels;
                    panels = v;
                    return was;
                default:
                    was = late;
                    late = v;
                    return was;
            }
        }

        int hour() {
            int cycle = light + dark;
            return cycle > 0 ? tick % cycle : 0;
        }

        boolean isLight() {
            return hour() < light;
        }

        int loads() {
            return loadPower.size();
        }

        int addLoad(int power, int harmOfIt) {
            loadPower.add(power);
            loadHarm.add(harmOfIt);
            return loads() - 1;
        }

        /** What all LOADS take in a TICK, but those whose bits are off. */
        int taken(int off) {
            int all = 0;
            for (int i = 0; i < loadPower.size(); i++) {
                if ((off & (1 << i)) == 0) {
                    all += loadPower.at(i);
                }
            }
            return all;
        }

        int harmOf(int off) {
            int all = 0;
            for (int i = 0; i < loadHarm.size(); i++) {
                if ((off & (1 << i)) != 0) {
                    all += loadHarm.at(i);
                }
            }
            return all;
        }

        void shine() {
            bank = Math.min(MOST_STORED, bank + panels);
        }

        void payLoads() {
            int off = 0;
            for (int n = 0; n < loads() && taken(off) > bank; n++) {
                off |= 1 << leastHarmful(off);
            }
            shed = off;
            harm += harmOf(off);
            bank -= taken(off);
        }

        private int leastHarmful(int off) {
            int least = -1;
            for (int i = 0; i < loads(); i++) {
                boolean isOn = (off & (1 << i)) == 0;
                if (isOn && (least < 0 || loadHarm.at(i) < loadHarm.at(least))) {
                    least = i;
                }
            }
            return Math.max(0, least);
        }

        /** THE CUT of a NIGHT: all LOADS off can always be paid, so there is one. */
        int leastCut(int n) {
            int best = (1 << loads()) - 1;
            for (int off = 0; off < 1 << loads(); off++) {
                if (n * taken(off) <= bank && isMilder(off, best)) {
                    best = off;
                }
            }
            return best;
        }

        private boolean isMilder(int off, int other) {
            int byHarm = harmOf(off) - harmOf(other);
            int byCount = Integer.bitCount(off) - Integer.bitCount(other);
            return byHarm < 0 || byHarm == 0 && byCount < 0;
        }

        void listNight(int n, Row rows) {
            int each = taken(leastCut(n));
            for (int t = 1; t <= n; t++) {
                rows.add(bank - t * each);
            }
        }
    }

    /** A MACHINE, and where it stands in the PROGRAM that it runs. */
    private static final class Machine {
        int kind;
        int cell;
        int charge;
        int wear;
        int carried;
        int cargo;
        int script;
        int place;
        /** How often each repeat that is open still goes round, by how many blocks are around it. */
        final Row left;

        Machine() {
            left = new Row(Program.MOST_BLOCKS);
            begin(ROVER, 0);
        }

        void begin(int newKind, int newCell) {
            kind = newKind;
            cell = newCell;
            charge = 50;
            wear = 0;
            carried = 0;
            cargo = DUST;
            beginScript(-1);
        }

        void become(Machine other) {
            kind = other.kind;
            cell = other.cell;
            charge = other.charge;
            wear = other.wear;
            carried = other.carried;
            cargo = other.cargo;
            script = other.script;
            place = other.place;
            left.become(other.left);
        }

        boolean isA(int wanted) {
            return isUnder(MACHINE_IS_ALSO, kind, wanted);
        }

        boolean isBroken() {
            return wear >= 100;
        }

        /** -1: it has none. */
        void beginScript(int number) {
            script = number;
            place = 0;
            left.fill(Program.MOST_BLOCKS, 0);
        }

        void addCharge(int more) {
            charge = Math.min(100, charge + more);
        }

        void pay(int chargeCost, int wearCost) {
            charge = Math.max(0, charge - chargeCost);
            addWear(wearCost);
        }

        /** How much of it there was still room for. */
        int addWear(int more) {
            int was = wear;
            wear = Math.min(100, wear + more);
            return wear - was;
        }
    }

    /** A PROGRAM as a row of acts, and the E's of them in the order in which they are worked out. */
    private static final class Program {
        static final int MOST_BLOCKS = 4;
        static final int GO = 1, UNTIL = 2, IF = 3, WHILE = 4, REPEAT = 5;
        static final int SCOOP = 6, DROP = 7, FUSE = 8, CHARGE = 9, MEND = 10, WAIT = 11;
        /** Acts that are no S by themselves, and so are not counted as ones. */
        static final int JUMP = 12, SET = 13;
        /** Ends an E; what else is below 0 in one is a sign or a NAME: its byte, taken from 0. */
        static final int STOP = -1;
        /** An act has its code and two numbers. */
        private static final int ACT = 3;
        /** A repeat makes three acts of ten bytes or more, all else makes fewer of as many. */
        private static final int MOST_ACTS = 40;

        final Row acts;
        final Row sums;
        int statements;

        Program() {
            acts = new Row(ACT * MOST_ACTS);
            sums = new Row(MOST_BYTES);
            statements = 0;
        }

        void empty() {
            acts.shorten(0);
            sums.shorten(0);
            statements = 0;
        }

        void become(Program other) {
            acts.become(other.acts);
            sums.become(other.sums);
            statements = other.statements;
        }

        boolean isEmpty() {
            return statements == 0;
        }

        int length() {
            return acts.size() / ACT;
        }

        int code(int place) {
            return acts.at(place * ACT);
        }

        int first(int place) {
            return acts.at(place * ACT + 1);
        }

        int second(int place) {
            return acts.at(place * ACT + 2);
        }

        int addAct(int code, int first, int second) {
            acts.add(code);
            acts.add(first);
            acts.add(second);
            return length() - 1;
        }

        /** An act that was put ahead of a block learns where the block ends. */
        void leadPast(int place) {
            acts.set(place * ACT + 2, length());
        }
    }

    /** THE TAPE, split into words and signs, and its end behind them. */
    private static final class Words {
        /** A sign is its own byte, and an S's word the code of its act taken from 0. */
        static final int END = -101, NUMBER = -102, NAME = -103, ELSE = -104, UNKNOWN = -105;
        private static final int MOST_DIGITS = 4;

        private final Row text;
        final Row kinds;
        final Row values;
        final Row starts;

        Words(Row tape) {
            text = tape;
            kinds = new Row(MOST_BYTES + 1);
            values = new Row(MOST_BYTES + 1);
            starts = new Row(MOST_BYTES + 1);
        }

        void split() {
            kinds.shorten(0);
            values.shorten(0);
            starts.shorten(0);
            int at = 0;
            for (int n = 0; n < MOST_BYTES && at < text.size(); n++) {
                at = text.at(at) == ' ' ? at + 1 : splitAt(at);
            }
            addWord(END, 0, text.size());
        }

        private void addWord(int kind, int value, int start) {
            kinds.add(kind);
            values.add(value);
            starts.add(start);
        }

        /** The place behind the word or sign. */
        private int splitAt(int start) {
            int end = start + 1;
            if (isLetter(start)) {
                while (end < text.size() && isLetter(end)) {
                    end++;
                }
                addWord(isGlued(start) ? UNKNOWN : wordKind(start, end), text.at(start), start);
            } else if (isDigit(start)) {
                while (end < text.size() && isDigit(end)) {
                    end++;
                }
                boolean isNumber = !isGlued(start) && end - start <= MOST_DIGITS;
                addWord(isNumber ? NUMBER : UNKNOWN, numberAt(start, end), start);
            } else {
                addWord(text.at(start), 0, start);
            }
            return end;
        }

        private boolean isLetter(int at) {
            return at < text.size() && text.at(at) >= 'a' && text.at(at) <= 'z';
        }

        private boolean isDigit(int at) {
            return at < text.size() && text.at(at) >= '0' && text.at(at) <= '9';
        }

        /** Whether a word stands right behind another one. */
        private boolean isGlued(int start) {
            return start > 0 && (isLetter(start - 1) || isDigit(start - 1));
        }

        private int numberAt(int start, int end) {
            int number = 0;
            for (int i = start; i < end; i++) {
                number = number * 10 + text.at(i) - '0';
            }
            return number;
        }

        private int wordKind(int start, int end) {
            if (end - start == 1) {
                return "ckwsdibtxy".indexOf((char) text.at(start)) >= 0 ? NAME : UNKNOWN;
            }
            if (spells("go", start, end)) return -Program.GO;
            if (spells("scoop", start, end)) return -Program.SCOOP;
            if (spells("drop", start, end)) return -Program.DROP;
            if (spells("fuse", start, end)) return -Program.FUSE;
            if (spells("charge", start, end)) return -Program.CHARGE;
            if (spells("mend", start, end)) return -Program.MEND;
            if (spells("wait", start, end)) return -Program.WAIT;
            if (spells("until", start, end)) return -Program.UNTIL;
            if (spells("if", start, end)) return -Program.IF;
            if (spells("else", start, end)) return ELSE;
            if (spells("while", start, end)) return -Program.WHILE;
            return spells("repeat", start, end) ? -Program.REPEAT : UNKNOWN;
        }

        private boolean spells(String word, int start, int end) {
            if (word.length() != end - start) {
                return false;
            }
            for (int i = 0; i < word.length(); i++) {
                if (text.at(start + i) != word.charAt(i)) {
                    return false;
                }
            }
            return true;
        }
    }

    /** Reads words and signs as a TEXT into a draft. */
    private static final class Parser {
        private static final int MOST_OPEN = 8;
        /** What joins, the loosest first, and what is joined at last. */
        private static final int OR = 0, AND = 1, TEST = 2, SUM = 3, TERM = 4, PART = 5;

        private final Words words;
        final Program draft;
        /** For each block that is open, the act ahead of it. */
        private final Row blocks;
        /** Whether a block, or the TEXT, has begun, and has no S yet. */
        private boolean isFresh;
        private int at;
        private int token;
        private int fault;

        Parser(Row tape) {
            words = new Words(tape);
            draft = new Program();
            blocks = new Row(Program.MOST_BLOCKS);
        }

        /** The place of the fault; -1: there is none, and the draft is the PROGRAM. */
        int read() {
            words.split();
            draft.empty();
            blocks.shorten(0);
            isFresh = true;
            at = 0;
            token = words.kinds.at(0);
            fault = -1;
            for (int n = 0; n <= MOST_BYTES && fault < 0 && !isOver(); n++) {
                if (token == '}' && blocks.size() > 0 && !isFresh) {
                    closeBlock();
                } else {
                    readOne();
                }
            }
            return fault;
        }

        private boolean isOver() {
            return token == Words.END && blocks.size() == 0 && !isFresh;
        }

        private void advance() {
            at++;
            token = words.kinds.at(at);
        }

        /** The first fault is the one that counts. */
        private void fail() {
            if (fault < 0) {
                fault = words.starts.at(at);
            }
        }

        private void expect(int wanted) {
            if (fault < 0 && token == wanted) {
                advance();
            } else {
                fail();
            }
        }

        private int readNumber() {
            int number = words.values.at(at);
            expect(Words.NUMBER);
            return number;
        }

        private void openBlock(int act) {
            if (fault < 0 && blocks.size() < Program.MOST_BLOCKS && token == '{') {
                advance();
                blocks.add(act);
                isFresh = true;
            } else {
                fail();
            }
        }

        private void closeBlock() {
            advance();
            int act = blocks.pop();
            int code = draft.code(act);
            if (code == Program.IF && token == Words.ELSE) {
                advance();
                int past = draft.addAct(Program.JUMP, 0, 0);
                draft.leadPast(act);
                openBlock(past);
                return;
            }
            if (code == Program.WHILE || code == Program.REPEAT) {
                draft.addAct(Program.JUMP, 0, act);
            }
            draft.leadPast(act);
        }

        private void readOne() {
            int code = -token;
            if (code < Program.GO || code > Program.WAIT) {
                fail();
                return;
            }
            draft.statements++;
            isFresh = false;
            advance();
            switch (code) {
                case Program.GO:
                    readGo();
                    break;
                case Program.UNTIL:
                    draft.addAct(Program.UNTIL, readTest(), 0);
                    break;
                case Program.IF:
                case Program.WHILE:
                    openBlock(draft.addAct(code, readTest(), 0));
                    break;
                case Program.REPEAT:
                    draft.addAct(Program.SET, blocks.size(), readNumber());
                    openBlock(draft.addAct(Program.REPEAT, blocks.size(), 0));
                    break;
                default:
                    draft.addAct(code, 0, 0);
                    break;
            }
        }

        private void readGo() {
            int x = readNumber();
            int y = readNumber();
            draft.addAct(Program.GO, x, y);
        }

        /** Where the E begins in the draft. */
        private int readTest() {
            int from = draft.sums.size();
            readSides(OR, 0, 0);
            draft.sums.add(Program.STOP);
            return from;
        }

        private void readSides(int level, int parens, int nots) {
            if (level >= PART) {
                readPart(parens, nots);
                return;
            }
            readSides(level + 1, parens, nots);
            int most = level == TEST ? 1 : MOST_BYTES;
            for (int n = 0; n < most && fault < 0 && level == looseness(token); n++) {
                int sign = token;
                advance();
                readSides(level + 1, parens, nots);
                draft.sums.add(-sign);
            }
        }

        private static int looseness(int sign) {
            switch (sign) {
                case '|':
                    return OR;
                case '&':
                    return AND;
                case '<':
                case '=':
                case '>':
                    return TEST;
                case '+':
                case '-':
                    return SUM;
                case '*':
                    return TERM;
                default:
                    return PART;
            }
        }

        private void readPart(int parens, int nots) {
            if (token == Words.NUMBER || token == Words.NAME) {
                int value = words.values.at(at);
                draft.sums.add(token == Words.NUMBER ? value : -value);
                advance();
            } else if (token == '!' && nots < MOST_OPEN) {
                advance();
                readPart(parens, nots + 1);
                draft.sums.add(-'!');
            } else if (token == '(' && parens < MOST_OPEN) {
                advance();
                readSides(OR, parens + 1, nots);
                expect(')');
            } else {
                fail();
            }
        }
    }

    /** All that an IMAGE keeps. */
    private static final class Site {
        /** An ORDER: its MACHINE, its PROGRAM, the TICK at which it comes. */
        static final int ORDER = 3;
        /** A REPORT: its CELL, KIND, DUST, ICE, the TICK of it, the TICK at which it comes. */
        static final int REPORT = 6;

        final Ground ground;
        final Power power;
        final Works works;
        private final Machine[] machines;
        int many;
        private final Program[] programs;
        final Row orders;
        final Row reports;

        Site() {
            ground = new Ground();
            power = new Power();
            works = new Works();
            machines = new Machine[MOST_MACHINES];
            for (int i = 0; i < machines.length; i++) {
                machines[i] = new Machine();
            }
            many = 0;
            programs = new Program[MOST_PROGRAMS];
            for (int i = 0; i < programs.length; i++) {
                programs[i] = new Program();
            }
            orders = new Row(ORDER * MOST_ORDERS);
            reports = new Row(REPORT * MOST_REPORTS);
        }

        void renew(int wide, int high) {
            ground.begin(wide, high);
            many = 0;
            orders.shorten(0);
            reports.shorten(0);
        }

        void become(Site other) {
            ground.become(other.ground);
            power.become(other.power);
            works.become(other.works);
            many = other.many;
            for (int i = 0; i < many; i++) {
                Machine mine = worker(i);
                Machine theirs = other.worker(i);
                if (mine != null && theirs != null) {
                    mine.become(theirs);
                }
            }
            for (int i = 0; i < MOST_PROGRAMS; i++) {
                Program mine = script(i);
                Program theirs = other.script(i);
                if (mine != null && theirs != null) {
                    mine.become(theirs);
                }
            }
            orders.become(other.orders);
            reports.become(other.reports);
        }

        /** null: there is no such MACHINE. */
        Machine worker(int i) {
            return i >= 0 && i < many && i < machines.length ? machines[i] : null;
        }

        /** null: there is no such PROGRAM. */
        Program script(int i) {
            return i >= 0 && i < programs.length ? programs[i] : null;
        }

        /** -1: there is none. */
        int machineOn(int cell) {
            for (int i = 0; i < many; i++) {
                Machine it = worker(i);
                if (it != null && it.cell == cell) {
                    return i;
                }
            }
            return -1;
        }

        int addMachine(int kind, int cell) {
            many++;
            Machine it = worker(many - 1);
            if (it != null) {
                it.begin(kind, cell);
            }
            return many - 1;
        }

        void endScript(int number) {
            for (int i = 0; i < many; i++) {
                Machine it = worker(i);
                if (it != null && it.script == number) {
                    it.beginScript(-1);
                }
            }
        }

        int scriptsTold() {
            int told = 0;
            for (int i = 0; i < MOST_PROGRAMS; i++) {
                Program it = script(i);
                if (it != null && !it.isEmpty()) {
                    told++;
                }
            }
            return told;
        }

        int ordersOnWay() {
            return orders.size() / ORDER;
        }

        int reportsOnWay() {
            return reports.size() / REPORT;
        }

        int addOrder(int machine, int program) {
            int comes = power.tick + power.late;
            orders.add(machine);
            orders.add(program);
            orders.add(comes);
            return comes;
        }

        int dustCarried() {
            int all = 0;
            for (int i = 0; i < many; i++) {
                Machine it = worker(i);
                if (it != null && it.cargo == DUST) {
                    all += it.carried;
                }
            }
            return all;
        }

        /** What a LANDING does to MACHINES: the WEAR that they got. */
        int shake(int center) {
            int all = 0;
            for (int i = 0; i < many; i++) {
                Machine it = worker(i);
                if (it != null && ground.apart(it.cell, center) < 3) {
                    all += it.addWear(20 - 5 * ground.apart(it.cell, center));
                }
            }
            return all;
        }
    }

    /** Lets TICKS go by on a site. */
    private static final class Runner {
        private static final int MOST_PASSED = 50;
        /** Far above all acts, those that are not counted too, that fifty counted ones bring along. */
        private static final int MOST_ACTS = 1000;
        /** What an act is to the TICK. */
        private static final int TAKES = -1, HIDDEN = 0, PASSES = 1;

        private final Site site;
        private final Row stack;

        Runner(Site theSite) {
            site = theSite;
            stack = new Row(MOST_BYTES);
        }

        void passTick() {
            bringOrders();
            bringReports();
            if (site.power.isLight()) {
                site.power.shine();
                chargeAll();
            }
            site.power.payLoads();
            for (int i = 0; i < site.many; i++) {
                runScript(site.worker(i));
            }
            for (int i = 0; i < site.many; i++) {
                sendReport(site.worker(i));
            }
            site.power.tick++;
        }

        /** Those that stay move up, so that they keep the order in which they were sent. */
        private void bringOrders() {
            Row orders = site.orders;
            int stay = 0;
            for (int at = 0; at < orders.size(); at += Site.ORDER) {
                if (orders.at(at + 2) == site.power.tick) {
                    bringOrder(site.worker(orders.at(at)), orders.at(at + 1));
                } else {
                    orders.take(orders, at, stay, Site.ORDER);
                    stay += Site.ORDER;
                }
            }
            orders.shorten(stay);
        }

        private void bringOrder(Machine machine, int number) {
            Program script = site.script(number);
            if (machine != null && script != null) {
                machine.beginScript(script.isEmpty() ? -1 : number);
            }
        }

        /** In the order in which they were sent, so that the latest of a CELL is the one that THE MAP keeps. */
        private void bringReports() {
            Row reports = site.reports;
            int stay = 0;
            for (int at = 0; at < reports.size(); at += Site.REPORT) {
                if (reports.at(at + 5) == site.power.tick) {
                    site.ground.learn(reports.at(at), reports.at(at + 1), reports.at(at + 2),
                        reports.at(at + 3), reports.at(at + 4));
                } else {
                    reports.take(reports, at, stay, Site.REPORT);
                    stay += Site.REPORT;
                }
            }
            reports.shorten(stay);
        }

        private void chargeAll() {
            for (int i = 0; i < site.many; i++) {
                Machine machine = site.worker(i);
                if (machine != null && !machine.isBroken()) {
                    machine.addCharge(3);
                }
            }
        }

        private void sendReport(Machine machine) {
            if (machine == null || machine.isBroken()) {
                return;
            }
            Ground ground = site.ground;
            int cell = machine.cell;
            int tick = site.power.tick;
            if (site.power.late == 0) {
                ground.learn(cell, ground.kinds.at(cell), ground.dust.at(cell), ground.ice.at(cell), tick);
                return;
            }
            site.reports.add(cell);
            site.reports.add(ground.kinds.at(cell));
            site.reports.add(ground.dust.at(cell));
            site.reports.add(ground.ice.at(cell));
            site.reports.add(tick);
            site.reports.add(tick + site.power.late);
        }

        private void runScript(Machine machine) {
            if (machine == null || machine.isBroken() || machine.charge <= 0) {
                return;
            }
            Program script = site.script(machine.script);
            if (script == null) {
                return;
            }
            int passed = 0;
            for (int n = 0; n < MOST_ACTS && passed < MOST_PASSED; n++) {
                int place = machine.place;
                if (place >= script.length()) {
                    machine.beginScript(-1);
                    return;
                }
                int kind = steer(machine, script);
                if (kind == TAKES && script.code(place) == Program.GO) {
                    go(machine, script.first(place), script.second(place));
                    return;
                }
                if (kind == TAKES) {
                    labour(machine, script.code(place));
                    return;
                }
                passed += kind;
            }
        }

        /** Moves the place on as far as this act alone decides it, and tells what the act is to the TICK. */
        private int steer(Machine machine, Program script) {
            int place = machine.place;
            int first = script.first(place);
            int second = script.second(place);
            machine.place = place + 1;
            switch (script.code(place)) {
                case Program.JUMP:
                    machine.place = second;
                    return HIDDEN;
                case Program.SET:
                    machine.left.set(first, second);
                    return HIDDEN;
                case Program.REPEAT:
                    if (machine.left.at(first) > 0) {
                        machine.left.set(first, machine.left.at(first) - 1);
                    } else {
                        machine.place = second;
                    }
                    return PASSES;
                case Program.IF:
                case Program.WHILE:
                    if (worth(machine, script, first) == 0) {
                        machine.place = second;
                    }
                    return PASSES;
                case Program.UNTIL:
                    if (worth(machine, script, first) != 0) {
                        return PASSES;
                    }
                    machine.place = place;
                    return TAKES;
                case Program.GO:
                    return isAt(machine, first, second) ? PASSES : TAKES;
                default:
                    return TAKES;
            }
        }

        private boolean isAt(Machine machine, int x, int y) {
            return site.ground.column(machine.cell) == x && site.ground.line(machine.cell) == y;
        }

        private void labour(Machine machine, int code) {
            switch (code) {
                case Program.SCOOP:
                    scoop(machine);
                    break;
                case Program.DROP:
                    drop(machine);
                    break;
                case Program.FUSE:
                    fuse(machine);
                    break;
                case Program.CHARGE:
                    charge(machine);
                    break;
                case Program.MEND:
                    mend(machine);
                    break;
                default:
                    break;
            }
        }

        /** The place is behind the go by now, as one that is given up wants it; else it is set back. */
        private void go(Machine machine, int x, int y) {
            Ground ground = site.ground;
            if (x >= ground.wide || y >= ground.high) {
                return;
            }
            int next = ground.stepTowards(machine.cell, y * ground.wide + x);
            if (next >= 0) {
                machine.place--;
                stepOnto(machine, next);
            }
        }

        private void stepOnto(Machine machine, int cell) {
            boolean isRoad = site.ground.isA(cell, ROAD);
            int cost = isRoad ? 1 : 2;
            if (site.machineOn(cell) < 0 && machine.charge >= cost) {
                machine.pay(cost, isRoad ? 0 : 1);
                machine.cell = cell;
            }
        }

        private void scoop(Machine machine) {
            int what = site.ground.isA(machine.cell, PIT) ? ICE : DUST;
            boolean carriesOther = machine.carried > 0 && machine.cargo != what;
            if (!machine.isA(SCOOPER) || carriesOther || machine.charge < 3) {
                return;
            }
            Row lying = site.ground.kilosOf(what);
            int there = lying.at(machine.cell);
            int kilos = Math.min(5, Math.min(there, MOST_CARRIED - machine.carried));
            if (kilos > 0) {
                lying.set(machine.cell, there - kilos);
                machine.carried += kilos;
                machine.cargo = what;
                machine.pay(3, 2);
            }
        }

        private void drop(Machine machine) {
            if (machine.carried <= 0) {
                return;
            }
            boolean isHome = site.ground.isA(machine.cell, BASE);
            Row onto = isHome ? site.ground.store : site.ground.kilosOf(machine.cargo);
            int at = isHome ? machine.cargo : machine.cell;
            onto.set(at, onto.at(at) + machine.carried);
            machine.carried = 0;
            machine.pay(1, 0);
        }

        private void fuse(Machine machine) {
            Ground ground = site.ground;
            int cell = machine.cell;
            boolean canBe = ground.kinds.at(cell) == GROUND && ground.dust.at(cell) >= 10;
            if (machine.isA(FUSER) && machine.charge >= 6 && canBe) {
                ground.kinds.set(cell, ROAD);
                ground.dust.set(cell, ground.dust.at(cell) - 10);
                ground.fused += 10;
                machine.pay(6, 3);
            }
        }

        private void charge(Machine machine) {
            if (site.ground.isA(machine.cell, BASE)) {
                int given = Math.min(20, Math.min(site.power.bank, 100 - machine.charge));
                site.power.bank -= given;
                machine.addCharge(given);
            }
        }

        private void mend(Machine machine) {
            Row store = site.ground.store;
            if (!machine.isA(MENDER) || machine.charge < 4 || store.at(PARTS) < 1) {
                return;
            }
            Machine other = mostWornBeside(machine.cell);
            if (other != null) {
                other.wear = Math.max(0, other.wear - 30);
                store.set(PARTS, store.at(PARTS) - 1);
                machine.pay(4, 0);
            }
        }

        /** null: none beside has any WEAR. */
        private Machine mostWornBeside(int cell) {
            Machine most = null;
            int wear = 0;
            for (int way = 0; way < Ground.WAYS; way++) {
                Machine other = site.worker(site.machineOn(site.ground.beside(cell, way)));
                if (other != null && other.wear > wear) {
                    most = other;
                    wear = other.wear;
                }
            }
            return most;
        }

        private int worth(Machine machine, Program script, int from) {
            stack.shorten(0);
            for (int i = from; i < script.sums.size() && script.sums.at(i) != Program.STOP; i++) {
                int code = script.sums.at(i);
                if (code >= 0) {
                    stack.add(code);
                } else if (code == -'!') {
                    stack.add(asBit(stack.pop() == 0));
                } else if (code <= -'a' && code >= -'z') {
                    stack.add(sense(machine, -code));
                } else {
                    int right = stack.pop();
                    int left = stack.pop();
                    stack.add(join(left, -code, right));
                }
            }
            return stack.pop();
        }

        private int sense(Machine machine, int name) {
            Ground ground = site.ground;
            switch (name) {
                case 'c':
                    return machine.charge;
                case 'k':
                    return machine.carried;
                case 'w':
                    return machine.wear;
                case 's':
                    return asBit(site.power.isLight());
                case 'd':
                    return ground.dust.at(machine.cell);
                case 'i':
                    return ground.ice.at(machine.cell);
                case 'b':
                    return site.power.bank;
                case 't':
                    return site.power.hour();
                case 'x':
                    return ground.column(machine.cell);
                default:
                    return ground.line(machine.cell);
            }
        }

        private static int join(int left, int sign, int right) {
            switch (sign) {
                case '|':
                    return asBit(left != 0 || right != 0);
                case '&':
                    return asBit(left != 0 && right != 0);
                case '<':
                    return asBit(left < right);
                case '=':
                    return asBit(left == right);
                case '>':
                    return asBit(left > right);
                case '+':
                    return left + right;
                case '-':
                    return left - right;
                default:
                    return left * right;
            }
        }
    }

    /** WORKS, and the search for THE PLAN. */
    private static final class Works {
        private final Row hours;
        private final Row powers;
        private final Row gains;
        private final Row aheads;
        private final Row row;
        final Row best;
        private int bestBank;
        private int ticks;
        private int upkeep;
        private int triesLeft;
        private boolean isSpent;

        Works() {
            hours = new Row(MOST_WORKS);
            powers = new Row(MOST_WORKS);
            gains = new Row(MOST_WORKS);
            aheads = new Row(MOST_WORKS);
            row = new Row(MOST_WORKS);
            best = new Row(MOST_WORKS);
        }

        void become(Works other) {
            hours.become(other.hours);
            powers.become(other.powers);
            gains.become(other.gains);
            aheads.become(other.aheads);
        }

        void empty() {
            hours.shorten(0);
            powers.shorten(0);
            gains.shorten(0);
            aheads.shorten(0);
        }

        int many() {
            return hours.size();
        }

        int addWork(int hoursOfIt, int power, int gain, int ahead) {
            hours.add(hoursOfIt);
            powers.add(power);
            gains.add(gain);
            aheads.add(ahead);
            return many() - 1;
        }

        /** What THE BANK has at the end of THE PLAN, which is in best then; SPENT; NO. */
        int find(int n, int tries, Power power) {
            ticks = n;
            upkeep = power.taken(0);
            triesLeft = tries;
            isSpent = false;
            bestBank = -1;
            row.shorten(0);
            best.shorten(0);
            seek(0, 0, power.bank, power.panels);
            if (isSpent) {
                return SPENT;
            }
            return bestBank < 0 ? NO : bestBank;
        }

        private void seek(int done, int hour, int bank, int panels) {
            weigh(hour, bank, panels);
            if (row.size() >= MOST_WORKS) {
                return;
            }
            for (int work = 0; work < many() && !isSpent; work++) {
                if (canFollow(work, done, hour)) {
                    tryWork(work, done, hour, bank, panels);
                }
            }
        }

        /** Rows come in their order, so that only one that leaves more takes the place of the best. */
        private void weigh(int hour, int bank, int panels) {
            int end = live(bank, panels, ticks - hour, upkeep);
            if (end > bestBank) {
                bestBank = end;
                best.become(row);
            }
        }

        private boolean canFollow(int work, int done, int hour) {
            boolean isNew = (done & (1 << work)) == 0;
            boolean isReady = (aheads.at(work) & ~done) == 0;
            return isNew && isReady && hour + hours.at(work) <= ticks;
        }

        private void tryWork(int work, int done, int hour, int bank, int panels) {
            if (triesLeft <= 0) {
                isSpent = true;
                return;
            }
            triesLeft--;
            int after = live(bank, panels, hours.at(work), upkeep + powers.at(work));
            if (after >= 0) {
                row.add(work);
                seek(done | (1 << work), hour + hours.at(work), after, panels + gains.at(work));
                row.pop();
            }
        }

        /** THE BANK behind so many TICKS at this cost; -1: it can not pay them. */
        private static int live(int bank, int panels, int many, int cost) {
            int left = bank;
            for (int t = 0; t < many && left >= 0; t++) {
                left = Math.min(MOST_STORED, left + panels) - cost;
            }
            return Math.max(-1, left);
        }

        /** The ROWS of THE PLAN that was found last. */
        void listRows(Power power, Row rows) {
            int bank = power.bank;
            int panels = power.panels;
            int hour = 0;
            for (int i = 0; i < best.size(); i++) {
                int work = best.at(i);
                for (int t = 0; t < hours.at(work); t++) {
                    bank = live(bank, panels, 1, upkeep + powers.at(work));
                    rows.add(work);
                    rows.add(bank);
                }
                hour += hours.at(work);
                panels += gains.at(work);
            }
            for (int t = hour; t < ticks; t++) {
                bank = live(bank, panels, 1, upkeep);
                rows.add(-1);
                rows.add(bank);
            }
        }
    }

    /** The two SHEETS. */
    private static final class Sheets {
        private final Row first;
        private final Row second;
        private int there;

        Sheets() {
            first = new Row(MOST_PLACES);
            second = new Row(MOST_PLACES);
            there = 0;
        }

        private Row row(int s) {
            return s == 0 ? first : second;
        }

        boolean isThere(int s) {
            return (there & (1 << s)) != 0;
        }

        void begin(int s, int n) {
            row(s).fill(n, 0);
            there |= 1 << s;
        }

        int places(int s) {
            return row(s).size();
        }

        int at(int s, int place) {
            return row(s).at(place);
        }

        int swap(int s, int place, int v) {
            return row(s).swap(place, v);
        }

        /** No sum of both, since it could wrap. */
        boolean hasPart(int s, int place, int many) {
            return place >= 0 && many >= 0 && many <= places(s) && place <= places(s) - many;
        }

        void move(int from, int place, int to, int at, int many) {
            row(to).take(row(from), place, at, many);
        }
    }
}

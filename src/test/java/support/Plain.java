import java.util.ArrayDeque;
import java.util.ArrayList;
import java.util.Arrays;
import java.util.Deque;
import java.util.List;

/** The document once more, as plainly as can be: trees for PROGRAMS, lists for all else, nothing kept ready. */
final class Plain {
    private static final int BAD = -1000000001, NO = -1000000002, FULL = -1000000003, SPENT = -1000000004;
    private static final int NONE = -1000000005, NOTHING = -1000000011, INDEX = -1000000013, SIZE = -1000000014;

    private interface Expr {
        int of(Plain base, Machine m);
    }

    private static final class S {
        String word;
        int a, b;
        Expr e;
        List<S> then, otherwise;

        int many() {
            int all = 1;
            if (then != null) {
                for (S s : then) {
                    all += s.many();
                }
            }
            if (otherwise != null) {
                for (S s : otherwise) {
                    all += s.many();
                }
            }
            return all;
        }
    }

    private static final class Frame {
        final List<S> list;
        int i = 0;
        int left = -1;

        Frame(List<S> list) {
            this.list = list;
        }
    }

    private static final class Machine {
        int kind, x, y, charge = 50, wear = 0, dust = 0, ice = 0, program = NONE;
        Deque<Frame> frames = new ArrayDeque<>();

        void begin(int p, List<S> list) {
            program = p;
            frames.clear();
            if (list != null) {
                frames.push(new Frame(list));
            }
        }

        Machine copied() {
            Machine m = new Machine();
            m.kind = kind;
            m.x = x;
            m.y = y;
            m.charge = charge;
            m.wear = wear;
            m.dust = dust;
            m.ice = ice;
            m.program = program;
            for (Frame f : frames) {
                Frame g = new Frame(f.list);
                g.i = f.i;
                g.left = f.left;
                m.frames.addLast(g);
            }
            return m;
        }
    }

    private int wide, high;
    private int[][] kind, dust, ice;
    private int[][][] seen;
    private int[] store = new int[3];
    private int fused, lost, tick;
    private int light = 14, dark = 14, bank = 100, panels = 10, late = 3, harm = 0, shed = 0;
    private List<int[]> loads = new ArrayList<>(), works = new ArrayList<>(), orders = new ArrayList<>(), reports = new ArrayList<>();
    private List<Machine> machines = new ArrayList<>();
    private List<List<S>> programs = new ArrayList<>(Arrays.asList(null, null, null, null, null, null));
    private final List<Integer> tape = new ArrayList<>(), waiting = new ArrayList<>();
    private final short[][] sheets = new short[2][];
    private Plain image;

    Plain() {
        ground(6, 4);
    }

    // ---- ground

    int ground(int w, int h) {
        if (w < 2 || w > 10 || h < 2 || h > 8) {
            return BAD;
        }
        wide = w;
        high = h;
        kind = new int[w][h];
        dust = new int[w][h];
        ice = new int[w][h];
        seen = new int[w][h][];
        for (int[] column : dust) {
            Arrays.fill(column, 20);
        }
        dust[0][0] = 0;
        kind[0][0] = 4;
        store = new int[3];
        fused = 0;
        lost = 0;
        machines.clear();
        orders.clear();
        reports.clear();
        return w * h;
    }

    private boolean no(int cell) {
        return cell < 0 || cell >= wide * high;
    }

    private int on(int x, int y) {
        for (int i = 0; i < machines.size(); i++) {
            if (machines.get(i).x == x && machines.get(i).y == y) {
                return i;
            }
        }
        return NONE;
    }

    int cell(int cell, int k) {
        if (no(cell) || cell == 0 || k < 0 || k > 3) {
            return BAD;
        }
        int x = cell % wide, y = cell / wide;
        if (k == 1 && on(x, y) != NONE) {
            return NO;
        }
        int was = kind[x][y];
        kind[x][y] = k;
        return was;
    }

    int put(int cell, int what, int v) {
        if (no(cell) || what < 0 || what > 1 || v < 0 || v > 999) {
            return BAD;
        }
        int[][] of = what == 0 ? dust : ice;
        int was = of[cell % wide][cell / wide];
        of[cell % wide][cell / wide] = v;
        return was;
    }

    int told(int cell, int what) {
        if (no(cell) || what < 0 || what > 3) {
            return BAD;
        }
        int x = cell % wide, y = cell / wide;
        return new int[] {kind[x][y], dust[x][y], ice[x][y], on(x, y)}[what];
    }

    private static boolean cellIs(int is, int k) {
        return is == k || k == 0 && is != 1 || k == 3 && is == 4;
    }

    int isOf(int cell, int k) {
        if (no(cell) || k < 0 || k > 4) {
            return BAD;
        }
        return cellIs(kind[cell % wide][cell / wide], k) ? 1 : 0;
    }

    int map(int cell, int what) {
        if (no(cell) || what < 0 || what > 3) {
            return BAD;
        }
        int[] r = seen[cell % wide][cell / wide];
        return r == null ? NONE : r[what];
    }

    int lay(int s) {
        if (s < 0 || s > 1) {
            return BAD;
        }
        if (sheets[s] == null) {
            return NOTHING;
        }
        int n = 0;
        while (n < wide * high && n < sheets[s].length) {
            dust[n % wide][n / wide] = sheets[s][n] < 0 || sheets[s][n] > 999 ? 0 : sheets[s][n];
            n++;
        }
        return n;
    }

    /** Steps of each CELL to a target by letting lengths settle. */
    private int[][] lengths(int tx, int ty) {
        int[][] far = new int[wide][high];
        for (int[] column : far) {
            Arrays.fill(column, 1000);
        }
        if (kind[tx][ty] != 1) {
            far[tx][ty] = 0;
        }
        for (boolean moved = true; moved;) {
            moved = false;
            for (int x = 0; x < wide; x++) {
                for (int y = 0; y < high; y++) {
                    if (kind[x][y] == 1) {
                        continue;
                    }
                    for (int[] way : WAYS) {
                        int nx = x + way[0], ny = y + way[1];
                        if (in(nx, ny) && far[nx][ny] + 1 < far[x][y]) {
                            far[x][y] = far[nx][ny] + 1;
                            moved = true;
                        }
                    }
                }
            }
        }
        return far;
    }

    private static final int[][] WAYS = {{1, 0}, {-1, 0}, {0, 1}, {0, -1}};

    private boolean in(int x, int y) {
        return x >= 0 && y >= 0 && x < wide && y < high;
    }

    int steps(int cell, int other) {
        if (no(cell) || no(other)) {
            return BAD;
        }
        int n = lengths(other % wide, other / wide)[cell % wide][cell / wide];
        return n >= 1000 ? NONE : n;
    }

    // ---- base

    int store(int what, int v) {
        if (what < 0 || what > 2 || v < 0 || v > 9999) {
            return BAD;
        }
        int was = store[what];
        store[what] = v;
        return was;
    }

    int rule(int which, int v) {
        int was;
        if (which == 0 && v >= 1 && v <= 24) {
            was = light;
            light = v;
        } else if (which == 1 && v >= 0 && v <= 24) {
            was = dark;
            dark = v;
        } else if (which == 2 && v >= 0 && v <= 9999) {
            was = bank;
            bank = v;
        } else if (which == 3 && v >= 0 && v <= 99) {
            was = panels;
            panels = v;
        } else if (which == 4 && v >= 0 && v <= 9) {
            was = late;
            late = v;
        } else {
            was = BAD;
        }
        return was;
    }

    int load(int power, int h) {
        if (power < 1 || power > 50 || h < 1 || h > 99) {
            return BAD;
        }
        if (loads.size() == 8) {
            return FULL;
        }
        loads.add(new int[] {power, h});
        return loads.size() - 1;
    }

    private boolean isLight() {
        return tick % (light + dark) < light;
    }

    int base(int what) {
        if (what < 0 || what > 8) {
            return BAD;
        }
        return new int[] {tick, isLight() ? 1 : 0, bank, panels, harm, shed, store[0], store[1], store[2]}[what];
    }

    // ---- machines, programs, orders

    int machine(int k, int cell) {
        if (k < 0 || k > 3 || no(cell)) {
            return BAD;
        }
        int x = cell % wide, y = cell / wide;
        if (kind[x][y] == 1 || on(x, y) != NONE) {
            return NO;
        }
        if (machines.size() == 5) {
            return FULL;
        }
        Machine m = new Machine();
        m.kind = k;
        m.x = x;
        m.y = y;
        machines.add(m);
        return machines.size() - 1;
    }

    private boolean noMachine(int i) {
        return i < 0 || i >= machines.size();
    }

    int is(int i, int k) {
        if (noMachine(i) || k < 0 || k > 3) {
            return BAD;
        }
        int is = machines.get(i).kind;
        return k == 0 || is == k || k == 1 && is == 2 ? 1 : 0;
    }

    int tune(int i, int what, int v) {
        if (noMachine(i) || what < 0 || what > 1 || v < 0 || v > 100) {
            return BAD;
        }
        Machine m = machines.get(i);
        int was = what == 0 ? m.charge : m.wear;
        if (what == 0) {
            m.charge = v;
        } else {
            m.wear = v;
        }
        return was;
    }

    int has(int i, int what) {
        if (noMachine(i) || what < 0 || what > 7) {
            return BAD;
        }
        Machine m = machines.get(i);
        int cargo = m.dust > 0 ? 0 : m.ice > 0 ? 1 : NONE;
        return new int[] {m.kind, m.y * wide + m.x, m.charge, m.wear, m.dust + m.ice, cargo, m.program, m.wear == 100 ? 1 : 0}[what];
    }

    int feed(int a, int b, int c) {
        if (tape.size() > 84) {
            return FULL;
        }
        for (int number : new int[] {a, b, c}) {
            tape.add(number >> 24 & 255);
            tape.add(number >> 16 & 255);
            tape.add(number >> 8 & 255);
            tape.add(number & 255);
        }
        return tape.size();
    }

    int trim(int n) {
        if (n < 0 || n > tape.size()) {
            return BAD;
        }
        while (tape.size() > n) {
            tape.remove(tape.size() - 1);
        }
        return n;
    }

    int program(int p) {
        StringBuilder text = new StringBuilder();
        for (int b : tape) {
            text.append((char) b);
        }
        tape.clear();
        if (p < 0 || p > 5) {
            return BAD;
        }
        for (Machine m : machines) {
            if (m.program == p) {
                m.begin(NONE, null);
            }
        }
        Reader reader = new Reader(text.toString());
        List<S> list = reader.all();
        programs.set(p, list);
        if (list == null) {
            return -100 - reader.fault();
        }
        int many = 0;
        for (S s : list) {
            many += s.many();
        }
        return many;
    }

    int send(int m, int p) {
        if (noMachine(m) || p < 0 || p > 5) {
            return BAD;
        }
        if (programs.get(p) == null) {
            return NO;
        }
        if (orders.size() == 12) {
            return FULL;
        }
        orders.add(new int[] {m, p, tick + late});
        return tick + late;
    }

    int order(int i, int what) {
        if (i < 0 || what < 0 || what > 2) {
            return BAD;
        }
        return i >= orders.size() ? NONE : orders.get(i)[what];
    }

    int run(int n) {
        if (n < 1 || n > 30) {
            return BAD;
        }
        if (tick + n > 2000) {
            return FULL;
        }
        for (int t = 0; t < n; t++) {
            tick();
        }
        return tick;
    }

    private void tick() {
        for (int[] o : new ArrayList<>(orders)) {
            if (o[2] == tick) {
                orders.remove(o);
                List<S> list = programs.get(o[1]);
                machines.get(o[0]).begin(list == null ? NONE : o[1], list);
            }
        }
        for (int[] r : new ArrayList<>(reports)) {
            if (r[6] == tick) {
                reports.remove(r);
                seen[r[4]][r[5]] = r;
            }
        }
        if (isLight()) {
            bank = Math.min(9999, bank + panels);
            for (Machine m : machines) {
                if (m.wear < 100) {
                    m.charge = Math.min(100, m.charge + 3);
                }
            }
        }
        shed();
        for (Machine m : machines) {
            act(m);
        }
        for (Machine m : machines) {
            if (m.wear < 100) {
                int[] r = {kind[m.x][m.y], dust[m.x][m.y], ice[m.x][m.y], tick, m.x, m.y, tick + late};
                if (late == 0) {
                    seen[m.x][m.y] = r;
                } else {
                    reports.add(r);
                }
            }
        }
        tick++;
    }

    private void shed() {
        shed = 0;
        while (true) {
            int all = 0;
            int least = -1;
            for (int i = 0; i < loads.size(); i++) {
                if ((shed >> i & 1) == 0) {
                    all += loads.get(i)[0];
                    least = least < 0 || loads.get(i)[1] < loads.get(least)[1] ? i : least;
                }
            }
            if (all <= bank) {
                bank -= all;
                return;
            }
            shed |= 1 << least;
            harm += loads.get(least)[1];
        }
    }

    private void act(Machine m) {
        if (m.wear == 100 || m.charge == 0 || m.program == NONE) {
            return;
        }
        int went = 0;
        while (went < 50) {
            while (!m.frames.isEmpty() && m.frames.peek().i == m.frames.peek().list.size()) {
                m.frames.pop();
            }
            if (m.frames.isEmpty()) {
                m.program = NONE;
                return;
            }
            if (takes(m, m.frames.peek())) {
                return;
            }
            went++;
        }
    }

    private boolean takes(Machine m, Frame f) {
        S s = f.list.get(f.i);
        switch (s.word) {
            case "if":
                f.i++;
                if (s.e.of(this, m) != 0) {
                    m.frames.push(new Frame(s.then));
                } else if (s.otherwise != null) {
                    m.frames.push(new Frame(s.otherwise));
                }
                return false;
            case "while":
                if (s.e.of(this, m) != 0) {
                    m.frames.push(new Frame(s.then));
                } else {
                    f.i++;
                }
                return false;
            case "repeat":
                f.left = f.left < 0 ? s.a : f.left;
                f.left--;
                if (f.left >= 0) {
                    m.frames.push(new Frame(s.then));
                } else {
                    f.i++;
                }
                return false;
            case "until":
                if (s.e.of(this, m) == 0) {
                    return true;
                }
                f.i++;
                return false;
            case "go":
                return goes(m, f, s.a, s.b);
            default:
                f.i++;
                works(m, s.word);
                return true;
        }
    }

    private boolean goes(Machine m, Frame f, int x, int y) {
        if (m.x == x && m.y == y) {
            f.i++;
            return false;
        }
        if (!in(x, y)) {
            f.i++;
            return true;
        }
        int[][] far = lengths(x, y);
        if (far[m.x][m.y] >= 1000) {
            f.i++;
            return true;
        }
        for (int[] way : WAYS) {
            int nx = m.x + way[0], ny = m.y + way[1];
            if (in(nx, ny) && far[nx][ny] == far[m.x][m.y] - 1) {
                int cost = kind[nx][ny] >= 3 ? 1 : 2;
                if (on(nx, ny) == NONE && m.charge >= cost) {
                    m.x = nx;
                    m.y = ny;
                    m.charge -= cost;
                    m.wear = Math.min(100, m.wear + cost - 1);
                }
                return true;
            }
        }
        return true;
    }

    private void works(Machine m, String word) {
        int k = kind[m.x][m.y];
        if (word.equals("scoop") && (m.kind == 1 || m.kind == 2) && m.charge >= 3) {
            int[][] of = k == 2 ? ice : dust;
            int room = k == 2 ? (m.dust > 0 ? 0 : 10 - m.ice) : (m.ice > 0 ? 0 : 10 - m.dust);
            int taken = Math.min(Math.min(5, room), of[m.x][m.y]);
            if (taken > 0) {
                of[m.x][m.y] -= taken;
                m.dust += k == 2 ? 0 : taken;
                m.ice += k == 2 ? taken : 0;
                m.charge -= 3;
                m.wear = Math.min(100, m.wear + 2);
            }
        } else if (word.equals("drop") && m.dust + m.ice > 0) {
            if (k == 4) {
                store[0] += m.dust;
                store[1] += m.ice;
            } else {
                dust[m.x][m.y] += m.dust;
                ice[m.x][m.y] += m.ice;
            }
            m.dust = 0;
            m.ice = 0;
            m.charge--;
        } else if (word.equals("fuse") && m.kind == 2 && m.charge >= 6 && k == 0 && dust[m.x][m.y] >= 10) {
            kind[m.x][m.y] = 3;
            dust[m.x][m.y] -= 10;
            fused += 10;
            m.charge -= 6;
            m.wear = Math.min(100, m.wear + 3);
        } else if (word.equals("charge") && k == 4) {
            for (int n = 0; n < 20 && bank > 0 && m.charge < 100; n++) {
                bank--;
                m.charge++;
            }
        } else if (word.equals("mend") && m.kind == 3 && m.charge >= 4 && store[2] > 0) {
            Machine worst = null;
            for (int[] way : WAYS) {
                int i = on(m.x + way[0], m.y + way[1]);
                if (i != NONE && machines.get(i).wear > (worst == null ? 0 : worst.wear)) {
                    worst = machines.get(i);
                }
            }
            if (worst != null) {
                worst.wear = Math.max(0, worst.wear - 30);
                m.charge -= 4;
                store[2]--;
            }
        }
    }

    int land(int cell, int parts) {
        if (no(cell) || parts < 0 || parts > 99) {
            return BAD;
        }
        int cx = cell % wide, cy = cell / wide;
        if (kind[cx][cy] == 1 || kind[cx][cy] == 4 || on(cx, cy) != NONE) {
            return NO;
        }
        int got = 0;
        for (Machine m : machines) {
            int away = Math.abs(m.x - cx) + Math.abs(m.y - cy);
            for (int n = 0; away < 3 && n < 20 - 5 * away && m.wear < 100; n++) {
                m.wear++;
                got++;
            }
        }
        for (int x = 0; x < wide; x++) {
            for (int y = 0; y < high; y++) {
                if (kind[x][y] == 0 && Math.abs(x - cx) + Math.abs(y - cy) < 2) {
                    lost += dust[x][y] / 2;
                    dust[x][y] -= dust[x][y] / 2;
                }
            }
        }
        store[2] = Math.min(9999, store[2] + parts);
        return got;
    }

    int kilos(int what) {
        if (what < 0 || what > 5) {
            return BAD;
        }
        int lying = 0;
        for (int[] column : dust) {
            lying += Arrays.stream(column).sum();
        }
        int carried = machines.stream().mapToInt(m -> m.dust).sum();
        return new int[] {lying, carried, store[0], fused, lost, lying + carried + store[0] + fused + lost}[what];
    }

    // ---- nights, works

    private int[] theCut(int n) {
        List<int[]> cuts = new ArrayList<>();
        for (int off = 0; off < 1 << loads.size(); off++) {
            int h = 0, power = 0;
            for (int i = 0; i < loads.size(); i++) {
                if ((off >> i & 1) == 1) {
                    h += loads.get(i)[1];
                } else {
                    power += loads.get(i)[0];
                }
            }
            boolean pays = true;
            int left = bank;
            for (int t = 0; t < n; t++) {
                left -= power;
                pays &= left >= 0;
            }
            if (pays) {
                cuts.add(new int[] {h, Integer.bitCount(off), off, power});
            }
        }
        cuts.sort((p, q) -> p[0] != q[0] ? p[0] - q[0] : p[1] != q[1] ? p[1] - q[1] : p[2] - q[2]);
        return cuts.get(0);
    }

    int night(int n) {
        return n < 1 || n > 24 ? BAD : theCut(n)[0];
    }

    int cut(int n) {
        return n < 1 || n > 24 ? BAD : theCut(n)[2];
    }

    int work(int hours, int power, int gain, int ahead) {
        if (hours < 1 || hours > 9 || power < 0 || power > 50 || gain < 0 || gain > 20 || ahead < 0 || ahead >> works.size() != 0) {
            return BAD;
        }
        if (works.size() == 6) {
            return FULL;
        }
        works.add(new int[] {hours, power, gain, ahead});
        return works.size() - 1;
    }

    int clear() {
        int were = works.size();
        works.clear();
        return were;
    }

    /** The ROWS of a row of WORKS for n TICKS, two by two; null: it can not be paid. */
    private List<Integer> rows(List<Integer> row, int n) {
        List<Integer> busy = new ArrayList<>();
        for (int w : row) {
            for (int h = 0; h < works.get(w)[0]; h++) {
                busy.add(w);
            }
        }
        List<Integer> out = new ArrayList<>();
        int left = bank, now = panels, upkeep = loads.stream().mapToInt(l -> l[0]).sum();
        for (int t = 0; t < n; t++) {
            int w = t < busy.size() ? busy.get(t) : -1;
            left = Math.min(9999, left + now) - upkeep - (w < 0 ? 0 : works.get(w)[1]);
            if (left < 0) {
                return null;
            }
            if (w >= 0 && (t + 1 == busy.size() || busy.get(t + 1) != w)) {
                now += works.get(w)[2];
            }
            out.add(w);
            out.add(left);
        }
        return out;
    }

    private int tried;
    private List<Integer> bestRow;
    private List<Integer> bestRows;

    private void seek(List<Integer> row, int n) {
        List<Integer> whole = rows(row, n);
        if (whole != null && (bestRow == null || last(whole) > last(bestRows))) {
            bestRow = new ArrayList<>(row);
            bestRows = whole;
        }
        for (int w = 0; w < works.size(); w++) {
            int hours = works.get(w)[0];
            int done = 0;
            for (int v : row) {
                hours += works.get(v)[0];
                done |= 1 << v;
            }
            if (row.contains(w) || (works.get(w)[3] & ~done) != 0 || hours > n) {
                continue;
            }
            tried++;
            List<Integer> longer = new ArrayList<>(row);
            longer.add(w);
            if (rows(longer, hours) != null) {
                seek(longer, n);
            }
        }
    }

    private static int last(List<Integer> row) {
        return row.get(row.size() - 1);
    }

    int plan(int n, int tries) {
        if (n < 1 || n > 24 || tries < 1 || tries > 20000) {
            return BAD;
        }
        tried = 0;
        bestRow = null;
        bestRows = null;
        seek(new ArrayList<>(), n);
        return tried > tries ? SPENT : bestRow == null ? NO : last(bestRows);
    }

    int planned(int n, int tries, int i) {
        int found = i < 0 ? BAD : plan(n, tries);
        return found < 0 ? found : i < bestRow.size() ? bestRow.get(i) : NONE;
    }

    int tell(int v) {
        if (waiting.size() == 100) {
            return FULL;
        }
        waiting.add(v);
        return waiting.size();
    }

    int check(int what, int n) {
        List<Integer> told = new ArrayList<>(waiting);
        waiting.clear();
        if (what < 0 || what > 1 || n < 1 || n > 24) {
            return BAD;
        }
        List<Integer> due = rowsDue(what, n);
        if (due == null) {
            return NO;
        }
        if (told.equals(due)) {
            return 0;
        }
        int k = 0;
        while (k < told.size() && k < due.size() && told.get(k).equals(due.get(k))) {
            k++;
        }
        return 1 + k;
    }

    /** null: no row can be paid. */
    List<Integer> rowsDue(int what, int n) {
        if (what == 0) {
            plan(n, 20000);
            return bestRows;
        }
        List<Integer> due = new ArrayList<>();
        for (int t = 1; t <= n; t++) {
            due.add(bank - t * theCut(n)[3]);
        }
        return due;
    }

    // ---- images, sheets

    private static int[][] copied(int[][] of) {
        int[][] to = new int[of.length][];
        for (int i = 0; i < of.length; i++) {
            to[i] = of[i].clone();
        }
        return to;
    }

    private void become(Plain o) {
        wide = o.wide;
        high = o.high;
        kind = copied(o.kind);
        dust = copied(o.dust);
        ice = copied(o.ice);
        seen = new int[wide][][];
        for (int x = 0; x < wide; x++) {
            seen[x] = o.seen[x].clone();
        }
        store = o.store.clone();
        fused = o.fused;
        lost = o.lost;
        tick = o.tick;
        light = o.light;
        dark = o.dark;
        bank = o.bank;
        panels = o.panels;
        late = o.late;
        harm = o.harm;
        shed = o.shed;
        loads = new ArrayList<>(o.loads);
        works = new ArrayList<>(o.works);
        orders = new ArrayList<>(o.orders);
        reports = new ArrayList<>(o.reports);
        programs = new ArrayList<>(o.programs);
        machines = new ArrayList<>();
        for (Machine m : o.machines) {
            machines.add(m.copied());
        }
    }

    int keep() {
        image = new Plain();
        image.become(this);
        return tick;
    }

    int back() {
        if (image == null) {
            return NO;
        }
        become(image);
        return tick;
    }

    int sheet(int s, int n) {
        if (s < 0 || s > 1 || n > 80) {
            return BAD;
        }
        if (n < 0) {
            return SIZE;
        }
        sheets[s] = new short[n];
        return n;
    }

    int mark(int s, int place, int v) {
        if (s < 0 || s > 1) {
            return BAD;
        }
        if (sheets[s] == null) {
            return NOTHING;
        }
        if (place < 0 || place >= sheets[s].length) {
            return INDEX;
        }
        int was = sheets[s][place];
        sheets[s][place] = (short) v;
        return was;
    }

    int copy(int from, int place, int to, int at, int many) {
        if (from < 0 || from > 1 || to < 0 || to > 1) {
            return BAD;
        }
        if (sheets[from] == null || sheets[to] == null) {
            return NOTHING;
        }
        long p = place, a = at;
        if (p < 0 || a < 0 || many < 0 || p + many > sheets[from].length || a + many > sheets[to].length) {
            return INDEX;
        }
        short[] were = sheets[from].clone();
        for (int i = 0; i < many; i++) {
            sheets[to][at + i] = were[place + i];
        }
        return many;
    }

    int count(int what) {
        if (what < 0 || what > 8) {
            return BAD;
        }
        int told = 0;
        for (List<S> list : programs) {
            told += list == null ? 0 : 1;
        }
        return new int[] {wide * high, machines.size(), loads.size(), told, orders.size(), reports.size(), works.size(),
            waiting.size(), tape.size()}[what];
    }

    /** Reads a TEXT by trying; the fault is where the word stands that was come to furthest and not matched. */
    private static final class Reader {
        private final List<String> words = new ArrayList<>();
        private final List<Integer> starts = new ArrayList<>();
        private int furthest = 0;
        private int at = 0;

        Reader(String text) {
            java.util.regex.Matcher m = java.util.regex.Pattern.compile("[a-z]+|[0-9]+|[^ ]", java.util.regex.Pattern.DOTALL).matcher(text);
            int behind = -1;
            while (m.find()) {
                boolean isWord = m.group().matches("[a-z0-9]+");
                words.add(isWord && m.start() == behind ? "?" : m.group());
                starts.add(m.start());
                behind = isWord ? m.end() : -1;
            }
            words.add("");
            starts.add(text.length());
        }

        int fault() {
            return starts.get(furthest);
        }

        private boolean next(String pattern) {
            if (words.get(at).matches(pattern)) {
                at++;
                return true;
            }
            furthest = Math.max(furthest, at);
            return false;
        }

        private boolean sign(String sign) {
            return next(java.util.regex.Pattern.quote(sign));
        }

        private String taken() {
            return words.get(at - 1);
        }

        List<S> all() {
            List<S> list = list(0);
            return list != null && next("") ? list : null;
        }

        private List<S> list(int open) {
            List<S> list = new ArrayList<>();
            while (true) {
                int from = at;
                S s = one(open);
                if (s == null) {
                    at = from;
                    return list.isEmpty() ? null : list;
                }
                list.add(s);
            }
        }

        private List<S> block(int open) {
            if (open == 4) {
                furthest = Math.max(furthest, at);
                return null;
            }
            if (!sign("{")) {
                return null;
            }
            List<S> list = list(open + 1);
            return list != null && sign("}") ? list : null;
        }

        private S one(int open) {
            S s = new S();
            if (!next("go|scoop|drop|fuse|charge|mend|wait|until|if|while|repeat")) {
                return null;
            }
            s.word = taken();
            switch (s.word) {
                case "go":
                    if (!next("[0-9]{1,4}")) {
                        return null;
                    }
                    s.a = Integer.parseInt(taken());
                    if (!next("[0-9]{1,4}")) {
                        return null;
                    }
                    s.b = Integer.parseInt(taken());
                    return s;
                case "until":
                    s.e = level(0, 0, 0);
                    return s.e == null ? null : s;
                case "repeat":
                    if (!next("[0-9]{1,4}")) {
                        return null;
                    }
                    s.a = Integer.parseInt(taken());
                    s.then = block(open);
                    return s.then == null ? null : s;
                case "while":
                case "if":
                    s.e = level(0, 0, 0);
                    s.then = s.e == null ? null : block(open);
                    if (s.then == null) {
                        return null;
                    }
                    if (s.word.equals("if") && next("else")) {
                        s.otherwise = block(open);
                        return s.otherwise == null ? null : s;
                    }
                    return s;
                default:
                    return s;
            }
        }

        private static final String[] JOINS = {"[|]", "[&]", "[<=>]", "[+-]", "[*]"};

        private Expr level(int level, int parens, int nots) {
            if (level == 5) {
                return part(parens, nots);
            }
            Expr left = level(level + 1, parens, nots);
            int joined = 0;
            while (left != null && (level != 2 || joined == 0) && next(JOINS[level])) {
                joined++;
                char sign = taken().charAt(0);
                Expr a = left;
                Expr b = level(level + 1, parens, nots);
                left = b == null ? null : (p, m) -> join(a.of(p, m), sign, b.of(p, m));
            }
            return left;
        }

        private static int join(int a, char sign, int b) {
            return switch (sign) {
                case '|' -> a == 0 && b == 0 ? 0 : 1;
                case '&' -> a == 0 || b == 0 ? 0 : 1;
                case '<' -> a < b ? 1 : 0;
                case '=' -> a == b ? 1 : 0;
                case '>' -> a > b ? 1 : 0;
                case '+' -> a + b;
                case '-' -> a - b;
                default -> a * b;
            };
        }

        private Expr part(int parens, int nots) {
            if (next("[0-9]{1,4}")) {
                int v = Integer.parseInt(taken());
                return (p, m) -> v;
            }
            if (next("[ckwsdibtxy]")) {
                char name = taken().charAt(0);
                return (p, m) -> p.sense(m, name);
            }
            if (nots < 8 && sign("!")) {
                Expr e = part(parens, nots + 1);
                return e == null ? null : (p, m) -> e.of(p, m) == 0 ? 1 : 0;
            }
            if (parens < 8 && sign("(")) {
                Expr e = level(0, parens + 1, nots);
                return e != null && sign(")") ? e : null;
            }
            return null;
        }
    }

    private int sense(Machine m, char name) {
        return switch (name) {
            case 'c' -> m.charge;
            case 'k' -> m.dust + m.ice;
            case 'w' -> m.wear;
            case 's' -> isLight() ? 1 : 0;
            case 'd' -> dust[m.x][m.y];
            case 'i' -> ice[m.x][m.y];
            case 'b' -> bank;
            case 't' -> tick % (light + dark);
            case 'x' -> m.x;
            default -> m.y;
        };
    }
}

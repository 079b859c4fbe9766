import java.util.Arrays;
import java.util.List;
import java.util.Random;

/**
 * Runs of calls, made by fixed seeds, on a DarkBase and on a Plain: all promises, each held against the other. A run
 * is of any length, and at its end what is left of the 512 calls that an object is used for looks at all there is.
 */
public final class PlainTest {
    private static final int RUNS = 8000;
    private static final int MOST_CALLS = 512;
    /** A call of this test's own may be some: a night that is told and checked, a PROGRAM that is fed. */
    private static final int MOST_AT_ONCE = 60;
    private static final int LOOKS = 140;

    private final Random random;
    private final DarkBase base = new DarkBase();
    private final Plain plain = new Plain();
    private final StringBuilder told = new StringBuilder();
    private boolean isSame = true;
    private int calls = 0;

    private PlainTest(long seed) {
        random = new Random(seed);
    }

    public static void main(String[] args) {
        int same = 0;
        for (int seed = 0; seed < RUNS; seed++) {
            same += new PlainTest(seed).runs() ? 1 : 0;
        }
        Due.is("runs that are the same", same, RUNS);
        Due.end();
    }

    private boolean runs() {
        setUp();
        int enough = in(calls, MOST_CALLS - LOOKS - MOST_AT_ONCE);
        while (calls < enough && isSame) {
            call();
            if (random.nextInt(4) == 0) {
                look();
            }
        }
        lookAtAll();
        if (!isSame) {
            System.out.println(told);
        }
        return isSame;
    }

    private void same(String call, int got, int due) {
        calls++;
        told.append(call).append(" = ").append(got).append('\n');
        if (got != due) {
            told.append("   due is ").append(due).append('\n');
            isSame = false;
        }
    }

    /** Mostly from least to most, now and then beside them or far off. */
    private int some(int least, int most) {
        int dice = random.nextInt(60);
        if (dice == 0) {
            return least - 1;
        }
        if (dice == 1) {
            return most + 1;
        }
        if (dice == 2) {
            return random.nextInt();
        }
        return least + random.nextInt(most - least + 1);
    }

    private int in(int least, int most) {
        return least + random.nextInt(most - least + 1);
    }

    private int someCell() {
        return some(0, plain.count(0) - 1);
    }

    private int someMachine() {
        return some(0, Math.max(0, plain.count(1) - 1));
    }

    private void setUp() {
        if (random.nextInt(3) > 0) {
            int w = in(2, 10), h = in(2, 8);
            same("ground " + w + " " + h, base.ground(w, h), plain.ground(w, h));
        }
        int rocks = in(0, plain.count(0) / 3);
        for (int i = 0; i < rocks; i++) {
            cell(in(1, plain.count(0) - 1), in(1, 3));
        }
        for (int i = 0; i < in(1, 5); i++) {
            int k = in(0, 3), c = random.nextInt(4) == 0 ? 0 : in(0, plain.count(0) - 1);
            same("machine " + k + " " + c, base.machine(k, c), plain.machine(k, c));
        }
        if (random.nextInt(2) == 0) {
            rule(4, in(0, 2));
        }
        for (int p = 0; p < 6; p++) {
            program(p, text(in(20, 96)));
        }
        store(2, in(0, 9));
    }

    private void cell(int c, int k) {
        same("cell " + c + " " + k, base.cell(c, k), plain.cell(c, k));
    }

    private void rule(int which, int v) {
        same("rule " + which + " " + v, base.rule(which, v), plain.rule(which, v));
    }

    private void store(int what, int v) {
        same("store " + what + " " + v, base.store(what, v), plain.store(what, v));
    }

    private void program(int p, String text) {
        byte[] bytes = text.getBytes(java.nio.charset.StandardCharsets.ISO_8859_1);
        byte[] filled = Arrays.copyOf(bytes, (bytes.length + 11) / 12 * 12);
        told.append("text <").append(text).append(">\n");
        same("trim", base.trim(0), plain.trim(0));
        for (int i = 0; i < filled.length; i += 12) {
            java.nio.ByteBuffer b = java.nio.ByteBuffer.wrap(filled, i, 12);
            int x = b.getInt(), y = b.getInt(), z = b.getInt();
            same("feed", base.feed(x, y, z), plain.feed(x, y, z));
        }
        same("trim " + bytes.length, base.trim(bytes.length), plain.trim(bytes.length));
        same("program " + p, base.program(p), plain.program(p));
    }

    // ---- texts

    private String text(int room) {
        StringBuilder s = new StringBuilder();
        for (int n = 0; n < 40; n++) {
            String one = statement(0);
            if (s.length() + one.length() + 1 <= room) {
                s.append(n > 0 ? " " : "").append(one);
            }
        }
        return s.length() == 0 ? "wait" : s.toString();
    }

    private String statement(int open) {
        String[] plainOnes = {"scoop", "drop", "fuse", "charge", "mend", "wait", "scoop", "fuse"};
        int dice = random.nextInt(open < 3 ? 20 : 13);
        if (dice < 7) {
            return plainOnes[random.nextInt(plainOnes.length)];
        }
        if (dice < 12) {
            return random.nextInt(3) == 0 ? "go 0 0" : "go " + in(0, 10) + " " + in(0, 8);
        }
        if (dice < 13) {
            return "until " + expression(2);
        }
        String body = "{" + statement(open + 1) + (random.nextInt(2) == 0 ? " " + statement(open + 1) : "") + "}";
        if (dice < 15) {
            return "repeat " + (random.nextInt(5) == 0 ? in(0, 9999) : in(0, 5)) + body;
        }
        if (dice < 17) {
            return "while " + expression(2) + body;
        }
        return "if " + expression(2) + body + (random.nextInt(2) == 0 ? "else{" + statement(open + 1) + "}" : "");
    }

    private String expression(int deep) {
        String names = "ckwsdibtxy";
        int dice = random.nextInt(deep > 0 ? 10 : 4);
        if (dice < 3) {
            return String.valueOf(names.charAt(random.nextInt(names.length())));
        }
        if (dice < 4) {
            return String.valueOf(random.nextInt(4) == 0 ? in(0, 9999) : in(0, 50));
        }
        if (dice < 5) {
            return "!" + part(deep - 1);
        }
        String joins = "<<>>==|&+-*";
        String join = String.valueOf(joins.charAt(random.nextInt(joins.length())));
        return random.nextInt(4) == 0 ? part(deep - 1) + " " + join + " " + part(deep - 1) : part(deep - 1) + join + part(deep - 1);
    }

    private String part(int deep) {
        String e = expression(deep);
        return e.length() == 1 ? e : "(" + e + ")";
    }

    /** A text with some bytes gone, changed or put in. */
    private String broken() {
        String signs = "{}()!|&<=>+-* 0123456789abcdefghijklmnopqrstuvwxyz\t\u00e9A;";
        String[] words = {"go ", "if ", "else", "while ", "until ", "repeat ", "wait", "{", "}", "(((", "!!!", "c", "12345", " "};
        StringBuilder s = new StringBuilder(text(in(10, 80)));
        for (int n = random.nextInt(4); n >= 0; n--) {
            int at = random.nextInt(s.length() + 1);
            int dice = random.nextInt(4);
            if (dice == 0 && at < s.length()) {
                s.deleteCharAt(at);
            } else if (dice == 1 && at < s.length()) {
                s.setCharAt(at, signs.charAt(random.nextInt(signs.length())));
            } else if (dice == 2) {
                s.insert(at, signs.charAt(random.nextInt(signs.length())));
            } else {
                s.insert(at, words[random.nextInt(words.length)]);
            }
        }
        return s.substring(0, Math.min(96, s.length()));
    }

    // ---- calls

    private void call() {
        int dice = random.nextInt(100);
        if (dice < 30) {
            int n = random.nextInt(40) == 0 ? some(1, 30) : in(1, 4);
            same("run " + n, base.run(n), plain.run(n));
        } else if (dice < 45) {
            int m = someMachine(), p = some(0, 5);
            same("send " + m + " " + p, base.send(m, p), plain.send(m, p));
        } else if (dice < 60) {
            ofGround();
        } else if (dice < 75) {
            ofMachines();
        } else if (dice < 82) {
            program(some(0, 5), random.nextInt(2) == 0 ? broken() : text(in(20, 96)));
        } else if (dice < 92) {
            ofNights();
        } else if (dice < 98) {
            ofSheets();
        } else if (random.nextInt(2) == 0) {
            same("keep", base.keep(), plain.keep());
        } else {
            same("back", base.back(), plain.back());
        }
    }

    private void ofGround() {
        int c = someCell(), d = someCell();
        int what = some(0, 4), v = some(0, 60);
        switch (random.nextInt(9)) {
            case 0 -> cell(c, some(0, 3));
            case 1 -> same("put " + c + " " + what % 2 + " " + v, base.put(c, what % 2, v), plain.put(c, what % 2, v));
            case 2 -> same("told " + c + " " + what, base.told(c, what), plain.told(c, what));
            case 3 -> same("isOf " + c + " " + what, base.isOf(c, what), plain.isOf(c, what));
            case 4 -> same("map " + c + " " + what, base.map(c, what), plain.map(c, what));
            case 5 -> same("steps " + c + " " + d, base.steps(c, d), plain.steps(c, d));
            case 6 -> store(some(0, 2), random.nextInt(3) == 0 ? some(0, 9999) : in(0, 5));
            case 7 -> same("land " + c + " " + v, base.land(c, v), plain.land(c, v));
            default -> {
                int w = some(2, 10), h = some(2, 8);
                if (random.nextInt(8) == 0) {
                    same("ground " + w + " " + h, base.ground(w, h), plain.ground(w, h));
                }
            }
        }
    }

    private void ofMachines() {
        int m = someMachine(), what = some(0, 7), v = some(0, 100);
        int k = some(0, 3), c = someCell();
        switch (random.nextInt(7)) {
            case 0 -> same("machine " + k + " " + c, base.machine(k, c), plain.machine(k, c));
            case 1 -> same("is " + m + " " + k, base.is(m, k), plain.is(m, k));
            case 2, 3 -> same("tune " + m + " " + k % 2 + " " + v, base.tune(m, k % 2, v), plain.tune(m, k % 2, v));
            case 4 -> same("has " + m + " " + what, base.has(m, what), plain.has(m, what));
            case 5 -> same("order " + what + " " + k, base.order(what, k), plain.order(what, k));
            default -> {
                int[] most = {24, 24, 9999, 99, 9, 5};
                int which = some(0, 4);
                rule(which, some(0, which >= 0 && which < 6 ? most[which] : 3));
            }
        }
    }

    private void ofNights() {
        int n = some(1, 24), tries = random.nextInt(2) == 0 ? some(1, 20000) : in(1, 60);
        switch (random.nextInt(11)) {
            case 0 -> same("night " + n, base.night(n), plain.night(n));
            case 1 -> same("cut " + n, base.cut(n), plain.cut(n));
            case 2 -> {
                int p = some(1, 20), h = some(1, 6);
                same("load " + p + " " + h, base.load(p, h), plain.load(p, h));
            }
            case 3, 4 -> {
                int hours = some(1, 4), power = some(0, 50), gain = some(0, 20), ahead = random.nextInt(2) * some(0, 63);
                same("work " + hours + " " + power + " " + gain + " " + ahead, base.work(hours, power, gain, ahead),
                    plain.work(hours, power, gain, ahead));
            }
            case 5 -> {
                if (random.nextInt(6) == 0) {
                    same("clear", base.clear(), plain.clear());
                }
            }
            case 6 -> same("plan " + n + " " + tries, base.plan(n, tries), plain.plan(n, tries));
            case 7 -> {
                int i = some(0, 5);
                same("planned " + n + " " + tries + " " + i, base.planned(n, tries, i), plain.planned(n, tries, i));
            }
            case 8 -> rule(2, in(0, 400));
            default -> check(random.nextInt(2), in(1, 24));
        }
    }

    private void check(int what, int n) {
        List<Integer> due = plain.rowsDue(what, n);
        int told = due == null ? 3 : random.nextInt(4) == 0 ? random.nextInt(due.size() + 2) : due.size();
        for (int i = 0; i < told; i++) {
            int v = due == null || i >= due.size() || random.nextInt(60) == 0 ? in(-1, 5) : due.get(i);
            same("tell " + v, base.tell(v), plain.tell(v));
        }
        int w = random.nextInt(30) == 0 ? some(0, 1) : what;
        same("check " + w + " " + n, base.check(w, n), plain.check(w, n));
    }

    private void ofSheets() {
        int s = some(0, 1), n = some(0, 12), v = random.nextInt();
        switch (random.nextInt(8)) {
            case 0 -> same("sheet " + s + " " + n, base.sheet(s, n), plain.sheet(s, n));
            case 1 -> same("mark " + s + " " + n + " " + v, base.mark(s, n, v), plain.mark(s, n, v));
            case 2 -> same("mark " + s + " " + n, base.mark(s, n, v & 1023), plain.mark(s, n, v & 1023));
            case 3, 4 -> {
                int to = some(0, 1), at = some(0, 12), many = some(0, 6);
                same("copy " + s + " " + n + " " + to + " " + at + " " + many, base.copy(s, n, to, at, many),
                    plain.copy(s, n, to, at, many));
            }
            case 5 -> same("lay " + s, base.lay(s), plain.lay(s));
            case 6 -> same("keep", base.keep(), plain.keep());
            default -> same("back", base.back(), plain.back());
        }
    }

    /** At one thing. */
    private void look() {
        int cell = in(0, plain.count(0) - 1), i = in(0, 4), what = in(0, 7);
        switch (random.nextInt(4)) {
            case 0 -> same("told " + cell + " " + what % 4, base.told(cell, what % 4), plain.told(cell, what % 4));
            case 1 -> same("map " + cell + " " + what % 4, base.map(cell, what % 4), plain.map(cell, what % 4));
            case 2 -> same("base " + what, base.base(what), plain.base(what));
            default -> same("has " + i + " " + what, base.has(i, what), plain.has(i, what));
        }
    }

    private void lookAtAll() {
        for (int what = -1; what < 10; what++) {
            same("base " + what, base.base(what), plain.base(what));
            same("count " + what, base.count(what), plain.count(what));
            same("kilos " + what, base.kilos(what), plain.kilos(what));
        }
        for (int i = 0; i < 5; i++) {
            for (int what = 0; what < 8; what++) {
                same("has " + i + " " + what, base.has(i, what), plain.has(i, what));
            }
            for (int what = 0; what < 3; what++) {
                same("order " + i + " " + what, base.order(i, what), plain.order(i, what));
            }
        }
        int from = in(0, plain.count(0) - 1);
        for (int n = 0; n < plain.count(0) && calls + 8 <= MOST_CALLS; n++) {
            int cell = (from + n) % plain.count(0);
            for (int what = 0; what < 4; what++) {
                same("told " + cell + " " + what, base.told(cell, what), plain.told(cell, what));
                same("map " + cell + " " + what, base.map(cell, what), plain.map(cell, what));
            }
        }
    }
}

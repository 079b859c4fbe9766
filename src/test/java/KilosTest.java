import java.util.Random;

/** KILOS of DUST: all together they are always what there was at first and was told, in runs of calls by fixed seeds. */
public final class KilosTest {
    private static final String[] TEXTS = {"while 1{scoop scoop go 0 0 drop go 3 2}", "while 1{fuse go 1 1 scoop go 4 2 drop}",
        "while 1{if c<20{go 0 0 charge charge}else{scoop go 2 3 drop fuse}}", "repeat 99{scoop drop fuse go 5 0 go 0 3}"};

    private final Random random;
    private final DarkBase base = new DarkBase();
    private int due = 460;
    private int dueInImage = 0;

    private KilosTest(long seed) {
        random = new Random(seed);
    }

    public static void main(String[] args) {
        int[] moved = new int[5];
        for (int seed = 0; seed < 300; seed++) {
            new KilosTest(seed).run(moved);
        }
        for (int what = 0; what < 5; what++) {
            Due.is("runs with kilos " + what, moved[what] > 30 ? 1 : 0, 1);
        }
        Due.end();
    }

    private void run(int[] moved) {
        base.rule(4, 0);
        for (int i = 0; i < 4; i++) {
            base.machine(1 + i % 2, 7 + 3 * i);
            Due.program(base, i, TEXTS[i]);
            base.send(i, i);
        }
        for (int n = 0; n < 160; n++) {
            call();
            Due.is("all kilos", base.kilos(5), due);
        }
        int all = 0;
        for (int what = 0; what < 5; what++) {
            int kilos = base.kilos(what);
            all += kilos;
            moved[what] += kilos > 0 ? 1 : 0;
        }
        Due.is("what they are made of", all, due);
    }

    private void call() {
        int cell = random.nextInt(24), v = random.nextInt(60);
        switch (random.nextInt(12)) {
            case 0 -> due += v - base.put(cell, 0, v);
            case 1 -> base.put(cell, 1, v);
            case 2 -> due += 10 * v - base.store(0, 10 * v);
            case 3 -> base.store(1, v);
            case 4 -> base.land(cell, v);
            case 5 -> base.cell(cell, v % 4);
            case 6 -> lay(v % 30);
            case 7 -> base.tune(v % 4, 0, 100);
            case 8 -> base.tune(v % 4, 1, 0);
            case 9 -> image(v);
            default -> base.run(1 + v % 6);
        }
    }

    /** A SHEET of so many places, 999 in one of them. */
    private void lay(int places) {
        base.sheet(0, places);
        base.mark(0, 3, 999);
        int before = base.kilos(0);
        base.lay(0);
        int after = base.kilos(0);
        due += after - before;
    }

    private void image(int v) {
        if (v % 3 == 0) {
            dueInImage = base.keep() >= 0 ? due : 0;
        } else if (base.back() >= 0) {
            due = dueInImage;
        }
    }
}

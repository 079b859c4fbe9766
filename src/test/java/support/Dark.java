/** Bases in the dark, to look at one TICK after the other: ORDERS come at once, and no light adds to CHARGE. */
final class Dark {
    private Dark() {
    }

    /** At TICK 1, with dark to come up to TICK 24, and 110 in THE BANK. */
    static DarkBase base() {
        DarkBase b = new DarkBase();
        b.rule(4, 0);
        b.rule(0, 1);
        b.rule(1, 24);
        b.run(1);
        return b;
    }

    /** With a MACHINE of a KIND on a CELL, with so much CHARGE and WEAR, that has got a TEXT. */
    static DarkBase with(int kind, int cell, int charge, int wear, String text) {
        DarkBase b = base();
        b.machine(kind, cell);
        b.tune(0, 0, charge);
        b.tune(0, 1, wear);
        Due.order(b, 0, 0, text);
        return b;
    }

    /** Whether an E holds for MACHINE 0 in this TICK: its PROGRAM waits then, and is over else. */
    static void holds(DarkBase b, String e, int due) {
        Due.order(b, 0, 5, "while " + e + "{wait}");
        b.run(1);
        Due.is(e, b.has(0, 6) == 5 ? 1 : 0, due);
    }
}

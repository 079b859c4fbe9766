import java.util.ArrayList;
import java.util.List;

/** All that can be asked of a DarkBase of 12 CELLS at most, as one row: fewer than 400 calls. */
final class State {
    private static final int CELLS = 12;
    private static final int[] HARMLESS_RULE = {1, 0, 0, 0, 0};

    private final DarkBase base;
    private final List<String> names = new ArrayList<>();
    private final List<Integer> answers = new ArrayList<>();

    private State(DarkBase base) {
        this.base = base;
    }

    /** Asks, and leaves all as it was. */
    static State of(DarkBase base) {
        State state = new State(base);
        state.askNumbers();
        state.askCells();
        state.askMachines();
        state.askOrders();
        state.askNights();
        return state;
    }

    /** Asks what else there is: the SHEETS, the numbers that wait, THE TAPE, THE IMAGE; uses some of it up. */
    static State restOf(DarkBase base) {
        State state = new State(base);
        state.askSheets();
        state.add("numbers that wait", base.count(7));
        state.add("bytes of the tape", base.count(8));
        state.add("what waits", base.check(1, 24));
        state.add("what is on the tape", base.program(5));
        state.add("its image", base.back());
        state.askMachines();
        state.askNights();
        state.askNumbers();
        return state;
    }

    void same(String what, State due) {
        Due.is(what + ": as many answers", answers.size(), due.answers.size());
        for (int i = 0; i < answers.size() && i < due.answers.size(); i++) {
            Due.is(what + ": " + names.get(i), answers.get(i), due.answers.get(i));
        }
    }

    private void add(String name, int answer) {
        names.add(name);
        answers.add(answer);
    }

    private void askNumbers() {
        for (int what = 0; what < 9; what++) {
            add("base " + what, base.base(what));
        }
        for (int what = 0; what < 7; what++) {
            add("count " + what, base.count(what));
        }
        for (int what = 0; what < 6; what++) {
            add("kilos " + what, base.kilos(what));
        }
        for (int which = 0; which < HARMLESS_RULE.length; which++) {
            int was = base.rule(which, HARMLESS_RULE[which]);
            base.rule(which, was);
            add("rule " + which, was);
        }
    }

    private void askCells() {
        for (int cell = 0; cell < CELLS; cell++) {
            for (int what = 0; what < 4; what++) {
                add("told " + cell + " " + what, base.told(cell, what));
                add("map " + cell + " " + what, base.map(cell, what));
            }
        }
    }

    private void askMachines() {
        for (int i = 0; i < 5; i++) {
            for (int what = 0; what < 8; what++) {
                add("has " + i + " " + what, base.has(i, what));
            }
        }
    }

    private void askOrders() {
        for (int i = 0; i < 12; i++) {
            for (int what = 0; what < 3; what++) {
                add("order " + i + " " + what, base.order(i, what));
            }
        }
    }

    private void askNights() {
        for (int n = 1; n < 24; n += 11) {
            add("night " + n, base.night(n));
            add("cut " + n, base.cut(n));
            add("plan " + n, base.plan(n, 20000));
        }
        for (int i = 0; i < 4; i++) {
            add("planned " + i, base.planned(12, 20000, i));
        }
    }

    private void askSheets() {
        for (int s = 0; s < 2; s++) {
            int was = 0;
            for (int place = 0; place < 7 && was >= Short.MIN_VALUE; place++) {
                was = base.mark(s, place, 0);
                base.mark(s, place, was);
                add("sheet " + s + " " + place, was);
            }
        }
    }
}

import java.lang.reflect.Method;
import java.util.Arrays;

/** Each argument of each call, the others being good, at the ends of the ints and where a product or sum would wrap. */
public final class ExtremesTest {
    private static final int BAD = DarkBase.BAD, NONE = DarkBase.NONE, INDEX = DarkBase.INDEX, SIZE = DarkBase.SIZE;
    /** Any number is good. */
    private static final int ANY = 1;

    public static void main(String[] args) throws Exception {
        asked("ground", ints(6, 4), ints(BAD, BAD), ints(BAD, BAD));
        asked("cell", ints(5, 2), ints(BAD, BAD), ints(BAD, BAD));
        asked("put", ints(5, 0, 7), ints(BAD, BAD, BAD), ints(BAD, BAD, BAD));
        asked("told", ints(5, 0), ints(BAD, BAD), ints(BAD, BAD));
        asked("isOf", ints(5, 0), ints(BAD, BAD), ints(BAD, BAD));
        asked("map", ints(8, 0), ints(BAD, BAD), ints(BAD, BAD));
        asked("lay", ints(0), ints(BAD), ints(BAD));
        asked("steps", ints(5, 8), ints(BAD, BAD), ints(BAD, BAD));
        asked("store", ints(0, 7), ints(BAD, BAD), ints(BAD, BAD));
        asked("rule", ints(2, 7), ints(BAD, BAD), ints(BAD, BAD));
        asked("load", ints(5, 5), ints(BAD, BAD), ints(BAD, BAD));
        asked("base", ints(2), ints(BAD), ints(BAD));
        asked("machine", ints(1, 5), ints(BAD, BAD), ints(BAD, BAD));
        asked("is", ints(0, 1), ints(BAD, BAD), ints(BAD, BAD));
        asked("tune", ints(0, 1, 5), ints(BAD, BAD, BAD), ints(BAD, BAD, BAD));
        asked("has", ints(0, 1), ints(BAD, BAD), ints(BAD, BAD));
        asked("feed", ints(1, 2, 3), ints(ANY, ANY, ANY), ints(ANY, ANY, ANY));
        asked("trim", ints(3), ints(BAD), ints(BAD));
        asked("program", ints(1), ints(BAD), ints(BAD));
        asked("send", ints(0, 0), ints(BAD, BAD), ints(BAD, BAD));
        asked("order", ints(0, 1), ints(BAD, BAD), ints(NONE, BAD));
        asked("run", ints(1), ints(BAD), ints(BAD));
        asked("land", ints(9, 1), ints(BAD, BAD), ints(BAD, BAD));
        asked("kilos", ints(5), ints(BAD), ints(BAD));
        asked("night", ints(5), ints(BAD), ints(BAD));
        asked("cut", ints(5), ints(BAD), ints(BAD));
        asked("work", ints(1, 2, 3, 1), ints(BAD, BAD, BAD, BAD), ints(BAD, BAD, BAD, BAD));
        asked("plan", ints(5, 9), ints(BAD, BAD), ints(BAD, BAD));
        asked("planned", ints(5, 9, 0), ints(BAD, BAD, BAD), ints(BAD, BAD, NONE));
        asked("tell", ints(5), ints(ANY), ints(ANY));
        asked("check", ints(1, 5), ints(BAD, BAD), ints(BAD, BAD));
        asked("sheet", ints(0, 5), ints(BAD, SIZE), ints(BAD, BAD));
        asked("mark", ints(0, 1, 5), ints(BAD, INDEX, ANY), ints(BAD, INDEX, ANY));
        asked("copy", ints(0, 1, 0, 2, 2), ints(BAD, INDEX, BAD, INDEX, INDEX), ints(BAD, INDEX, BAD, INDEX, INDEX));
        asked("count", ints(7), ints(BAD), ints(BAD));
        Due.end();
    }

    private static int[] ints(int... v) {
        return v;
    }

    /** An object in which each of the calls above is good. */
    private static DarkBase good() {
        DarkBase b = new DarkBase();
        b.rule(4, 0);
        b.machine(1, 8);
        b.run(1);
        b.work(1, 0, 20, 0);
        b.sheet(0, 6);
        Due.program(b, 0, "wait");
        b.send(0, 0);
        b.feed(0x77616974, 0x20202020, 0x20202020);
        return b;
    }

    private static void asked(String name, int[] good, int[] below, int[] above) throws Exception {
        Class<?>[] types = new Class<?>[good.length];
        Arrays.fill(types, int.class);
        Method call = DarkBase.class.getMethod(name, types);
        Due.is(name + " is good", answer(call, good) > -1000 ? 1 : 0, 1);
        for (int i = 0; i < good.length; i++) {
            int[] most = {Integer.MAX_VALUE, Integer.MAX_VALUE - 1, 1 << 30, 1 << 29, 1 << 16 | good[i]};
            for (int v : most) {
                given(call, good, i, v, above[i]);
            }
            int[] least = {Integer.MIN_VALUE, Integer.MIN_VALUE + 1, -(1 << 30), -1};
            for (int v : least) {
                given(call, good, i, v, below[i]);
            }
        }
    }

    private static void given(Method call, int[] good, int i, int v, int due) throws Exception {
        int[] given = good.clone();
        given[i] = v;
        int got = answer(call, given);
        Due.is(call.getName() + Arrays.toString(given), due == ANY ? (got > -1000 ? ANY : got) : got, due);
    }

    private static int answer(Method call, int[] given) throws Exception {
        return (int) call.invoke(good(), Arrays.stream(given).boxed().toArray());
    }
}

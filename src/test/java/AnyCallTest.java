import java.lang.reflect.InvocationTargetException;
import java.lang.reflect.Method;
import java.lang.reflect.Modifier;
import java.util.ArrayList;
import java.util.Arrays;
import java.util.Comparator;
import java.util.List;
import java.util.Random;

/** No call throws or fails to end, for any arguments in any state; 512 calls at most on each object. */
public final class AnyCallTest {
    private static final int[] EDGES = {0, 1, 2, 3, 4, 5, 6, 7, 8, 9, 10, 11, 20, 24, 25, 30, 50, 79, 80, 81, 96, 99, 100, 101, 999, 1000,
        9999, 10000, 20000, 20001, -1, -2, -100, Integer.MAX_VALUE, Integer.MIN_VALUE, Integer.MAX_VALUE - 1, 1 << 30, 1 << 16, 32768};
    private static final String[] TEXTS = {"while 1{scoop go 0 0 drop}", "go 5 3 fuse go 9 7", "repeat 9999{if c{go 1 1}else{charge}}",
        "while !!!!!!!!(((((((c+k*w<s|d&i-b=t))))))){wait}", "until c*c*c*c*c*c>x-y mend", "while 1{while 1{while 1{while 0{wait}}}}"};

    public static void main(String[] args) throws Exception {
        List<Method> calls = new ArrayList<>();
        for (Method m : DarkBase.class.getDeclaredMethods()) {
            if (Modifier.isPublic(m.getModifiers())) {
                calls.add(m);
            }
        }
        calls.sort(Comparator.comparing(Method::getName));
        Due.is("calls", calls.size(), 38);
        Random random = new Random(7);
        for (int run = 0; run < 1500; run++) {
            DarkBase base = new DarkBase();
            for (int n = 0; n < 400; n++) {
                if (n % 50 == 0) {
                    Due.program(base, random.nextInt(6), TEXTS[random.nextInt(TEXTS.length)]);
                    base.send(random.nextInt(5), random.nextInt(6));
                }
                call(base, calls.get(random.nextInt(calls.size())), random);
            }
            Due.is("kilos", base.kilos(5), (long) base.kilos(0) + base.kilos(1) + base.kilos(2) + base.kilos(3) + base.kilos(4));
        }
        Due.end();
    }

    private static void call(DarkBase base, Method m, Random random) throws Exception {
        Object[] given = new Object[m.getParameterCount()];
        boolean isTame = random.nextInt(2) == 0;
        for (int i = 0; i < given.length; i++) {
            given[i] = isTame ? random.nextInt(8) : random.nextInt(9) == 0 ? random.nextInt() : EDGES[random.nextInt(EDGES.length)];
        }
        try {
            m.invoke(base, given);
        } catch (InvocationTargetException thrown) {
            Due.is(m.getName() + Arrays.toString(given) + " threw " + thrown.getCause(), 1, 0);
        }
    }
}

import java.nio.charset.StandardCharsets;
import java.util.Arrays;

/** Counts the answers that are not as due, and puts texts onto THE TAPE. */
final class Due {
    private static int asked = 0;
    private static int wrong = 0;

    private Due() {
    }

    static void is(String what, long got, long want) {
        asked++;
        if (got != want) {
            wrong++;
            System.out.println(what + " answered " + got + ", due is " + want);
        }
    }

    /** Puts a text onto an empty TAPE. */
    static void tape(DarkBase base, String text) {
        byte[] bytes = text.getBytes(StandardCharsets.ISO_8859_1);
        byte[] filled = Arrays.copyOf(bytes, (bytes.length + 11) / 12 * 12);
        for (int i = 0; i < filled.length; i += 12) {
            base.feed(number(filled, i), number(filled, i + 4), number(filled, i + 8));
        }
        base.trim(bytes.length);
    }

    /** Tells a PROGRAM by its text, and answers as program does. */
    static int program(DarkBase base, int program, String text) {
        tape(base, text);
        return base.program(program);
    }

    /** With orders that come at once: tells a PROGRAM and sends it to a MACHINE. */
    static void order(DarkBase base, int machine, int program, String text) {
        int told = program(base, program, text);
        if (told < 1) {
            is("program " + text, told, 1);
        }
        is("send " + text, base.send(machine, program), base.base(0));
    }

    private static int number(byte[] bytes, int at) {
        return (bytes[at] & 255) << 24 | (bytes[at + 1] & 255) << 16 | (bytes[at + 2] & 255) << 8 | bytes[at + 3] & 255;
    }

    /** The last thing that a test's main does. */
    static void end() {
        System.out.println(asked + " answers, " + wrong + " not as due");
        if (wrong != 0 || asked == 0) {
            System.exit(1);
        }
    }
}

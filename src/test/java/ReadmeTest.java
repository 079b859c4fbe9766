import java.lang.reflect.Method;
import java.lang.reflect.Modifier;
import java.nio.file.Files;
import java.nio.file.Path;
import java.util.regex.Matcher;
import java.util.regex.Pattern;

/** README.md tells of each call with as many arguments as it takes, and what it shows is so. */
public final class ReadmeTest {
    public static void main(String[] args) throws Exception {
        Path source = Path.of(System.getProperty("source", "src/main/java/DarkBase.java")).toAbsolutePath();
        Path root = source.getParent().getParent().getParent().getParent();
        String readme = Files.readString(root.resolve("README.md"));
        for (Method call : DarkBase.class.getDeclaredMethods()) {
            if (Modifier.isPublic(call.getModifiers())) {
                Due.is(call.getName() + " is told of", toldWith(readme, call.getName()), call.getParameterCount());
            }
        }
        shown();
        Due.end();
    }

    /** With how many arguments a row tells of a call; -1: none does. */
    private static int toldWith(String readme, String name) {
        Matcher row = Pattern.compile("\n\\| `" + name + "\\(([^)]*)\\)` \\|").matcher(readme);
        return !row.find() ? -1 : row.group(1).isEmpty() ? 0 : row.group(1).split(", ").length;
    }

    /** The calls that README.md shows, and the text behind them. */
    private static void shown() {
        DarkBase base = new DarkBase();
        Due.is("machine", base.machine(1, 7), 0);
        Due.is("feed", base.feed(0x73636f6f, 0x7020676f, 0x20302030), 12);
        Due.is("program", base.program(0), 2);
        Due.is("send", base.send(0, 0), 3);
        Due.is("run", base.run(10), 10);
        Due.is("has kilos", base.has(0, 4), 5);
        Due.is("has its cell", base.has(0, 1), 0);
        Due.is("the text", Due.program(base, 1, "while k<10 & c>20 { if d+i { scoop } else { go 3 2 } } go 0 0 drop"), 6);
    }
}

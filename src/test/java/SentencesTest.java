import java.nio.file.Files;
import java.nio.file.Path;
import java.util.regex.Matcher;
import java.util.regex.Pattern;

/** Each test that src/test/SENTENCES.md names is there, and is called where it stands. */
public final class SentencesTest {
    public static void main(String[] args) throws Exception {
        Path source = Path.of(System.getProperty("source", "src/main/java/DarkBase.java")).toAbsolutePath();
        Path tests = source.getParent().getParent().getParent().resolve("test");
        Matcher named = Pattern.compile("(\\w+Test)\\.(\\w+)").matcher(Files.readString(tests.resolve("SENTENCES.md")));
        int many = 0;
        while (named.find()) {
            String test = Files.readString(tests.resolve("java").resolve(named.group(1) + ".java"));
            Matcher method = Pattern.compile(" static void " + named.group(2) + "\\(").matcher(test);
            Due.is(named.group() + " is there", method.find() ? 1 : 0, 1);
            boolean isCalled = named.group(2).equals("main") || test.contains("  " + named.group(2) + "(");
            Due.is(named.group() + " is called", isCalled ? 1 : 0, 1);
            many++;
        }
        Due.is("tests are named", many > 150 ? 1 : 0, 1);
        Due.end();
    }
}

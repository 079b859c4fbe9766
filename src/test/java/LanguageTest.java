import java.io.PrintWriter;
import java.io.StringWriter;
import java.lang.reflect.Constructor;
import java.lang.reflect.Field;
import java.lang.reflect.Method;
import java.lang.reflect.Modifier;
import java.nio.file.Files;
import java.nio.file.Path;
import java.util.ArrayList;
import java.util.Arrays;
import java.util.HashMap;
import java.util.HashSet;
import java.util.List;
import java.util.Map;
import java.util.Set;
import java.util.regex.Matcher;
import java.util.regex.Pattern;
import java.util.spi.ToolProvider;

/** The rules of LANGUAGE.md that a program can look at, and the public face of the document. */
public final class LanguageTest {
    private static final String[] FACE = {"ground 2", "cell 2", "put 3", "told 2", "isOf 2", "map 2", "lay 1", "steps 2", "store 2",
        "rule 2", "load 2", "base 1", "machine 2", "is 2", "tune 3", "has 2", "feed 3", "trim 1", "program 1", "send 2", "order 2",
        "run 1", "land 2", "kilos 1", "night 1", "cut 1", "work 4", "clear 0", "plan 2", "planned 3", "tell 1", "check 2", "keep 0",
        "back 0", "sheet 2", "mark 3", "copy 5", "count 1"};
    private static final String[] CONSTANTS = {"BAD", "NO", "FULL", "SPENT", "NONE", "NOTHING", "INDEX", "SIZE"};
    private static final int[] VALUES = {-1000000001, -1000000002, -1000000003, -1000000004, -1000000005, -1000000011, -1000000013,
        -1000000014};

    public static void main(String[] args) throws Exception {
        face();
        classesInside();
        String source = Files.readString(Path.of(System.getProperty("source", "src/main/java/DarkBase.java")));
        words(source);
        methodsAreShort(source);
        callsAreShallow();
        Due.end();
    }

    private static void is(String what, boolean so) {
        Due.is(what, so ? 1 : 0, 1);
    }

    private static boolean isOpen(int modifiers) {
        return !Modifier.isPrivate(modifiers);
    }

    private static void face() throws Exception {
        is("public and final", Modifier.isPublic(DarkBase.class.getModifiers()) && Modifier.isFinal(DarkBase.class.getModifiers()));
        Set<String> due = new HashSet<>(Arrays.asList(FACE));
        Set<String> open = new HashSet<>();
        for (Method m : DarkBase.class.getDeclaredMethods()) {
            if (isOpen(m.getModifiers())) {
                is(m + " is public", Modifier.isPublic(m.getModifiers()) && m.getReturnType() == int.class);
                is(m + " takes ints", Arrays.stream(m.getParameterTypes()).allMatch(t -> t == int.class));
                open.add(m.getName() + " " + m.getParameterCount());
            }
        }
        is("the methods of the face, and no others", open.equals(due));
        Constructor<?>[] constructors = DarkBase.class.getDeclaredConstructors();
        is("one constructor", constructors.length == 1 && Modifier.isPublic(constructors[0].getModifiers()));
        List<String> constants = new ArrayList<>();
        for (Field f : DarkBase.class.getDeclaredFields()) {
            is(f + " is final if static", Modifier.isFinal(f.getModifiers()) || !Modifier.isStatic(f.getModifiers()));
            if (isOpen(f.getModifiers())) {
                constants.add(f.getName());
            }
        }
        is("the constants of the face, and no others", constants.equals(Arrays.asList(CONSTANTS)));
        for (int i = 0; i < CONSTANTS.length; i++) {
            Due.is(CONSTANTS[i], DarkBase.class.getField(CONSTANTS[i]).getInt(null), VALUES[i]);
        }
    }

    private static void classesInside() {
        Class<?>[] inside = DarkBase.class.getDeclaredClasses();
        is("twelve classes at most", inside.length + 1 <= 12);
        Set<String> face = new HashSet<>();
        for (String call : FACE) {
            face.add(call.split(" ")[0]);
        }
        for (Class<?> c : inside) {
            is(c + " is static", Modifier.isStatic(c.getModifiers()) && !Modifier.isPublic(c.getModifiers()));
            int fields = 0;
            for (Field f : c.getDeclaredFields()) {
                is(f + " is final if static", Modifier.isFinal(f.getModifiers()) || !Modifier.isStatic(f.getModifiers()));
                fields += Modifier.isStatic(f.getModifiers()) ? 0 : 1;
            }
            is(c + " has twenty fields at most", fields <= 20);
            for (Method m : c.getDeclaredMethods()) {
                is(m + " bears no name of the face", !face.contains(m.getName()));
                is(m + " takes seven at most", m.getParameterCount() <= 7);
            }
        }
    }

    private static String bare(String source) {
        return source.replaceAll("(?s)/\\*.*?\\*/", " ").replaceAll("//[^\n]*", " ");
    }

    private static void words(String source) {
        String bare = bare(source);
        String[] banned = {"throw", "throws", "try", "catch", "synchronized", "assert", "import", "package", "yield", "native",
            "volatile", "transient", "System\\.out", "System\\.exit", "Random", "Thread", "Object", "->", "::", "Exact", "@\\w+",
            "toString", "hashCode", "instanceof", "goto"};
        for (String word : banned) {
            String pattern = Character.isLetter(word.charAt(0)) ? "\\b" + word + "\\b" : word;
            is("no " + word, !Pattern.compile(pattern).matcher(bare).find());
        }
        is("no endless loop", !Pattern.compile("while \\(true\\)|for \\(;;").matcher(bare).find());
        is("no static block", !Pattern.compile("static\\s*\\{").matcher(bare).find());
        for (int i = 0; i < source.length(); i++) {
            is("signs 1 to 127", source.charAt(i) > 0 && source.charAt(i) < 128);
        }
        Matcher news = Pattern.compile("new (\\w+)").matcher(bare);
        while (news.find()) {
            is("new " + news.group(1) + " in constructors alone", isInConstructor(bare, news.start()));
        }
    }

    private static boolean isInConstructor(String bare, int at) {
        Matcher heads = Pattern.compile("\n {4,8}(?:public |private |static |final )*(?:([\\w\\[\\]]+) )?(\\w+)\\([^)]*\\) \\{").matcher(bare);
        boolean isConstructor = false;
        while (heads.find() && heads.start() < at) {
            isConstructor = heads.group(1) == null;
        }
        return isConstructor;
    }

    /** Each method's name with the class that it is in, and its lines. */
    private static Map<String, String> methods(String source) {
        Map<String, String> methods = new HashMap<>();
        String[] lines = bare(source).split("\n");
        String inside = "DarkBase";
        for (int i = 0; i < lines.length; i++) {
            Matcher c = Pattern.compile("^ {4}private static final class (\\w+).*").matcher(lines[i]);
            if (c.matches()) {
                inside = c.group(1);
            }
            Matcher m = Pattern.compile("^( {4}| {8})(?:public |private |static |final )*(?:[\\w\\[\\]]+ )?(\\w+)\\(.*\\) \\{$").matcher(lines[i]);
            if (m.matches() && !m.group(2).matches("if|for|while|switch")) {
                StringBuilder body = new StringBuilder();
                for (int j = i + 1; j < lines.length && !lines[j].equals(m.group(1) + "}"); j++) {
                    body.append(lines[j]).append('\n');
                }
                methods.put((m.group(1).length() == 4 ? "DarkBase" : inside) + "." + m.group(2), body.toString());
            }
        }
        return methods;
    }

    private static void methodsAreShort(String source) {
        Map<String, String> methods = methods(source);
        is("methods were found", methods.size() > 150);
        for (Map.Entry<String, String> m : methods.entrySet()) {
            is(m.getKey() + " has sixty lines at most", m.getValue().split("\n").length <= 60);
        }
    }

    /** Each method with those that it calls, as the class files tell it. */
    private static Map<String, Set<String>> calls() throws Exception {
        Map<String, Set<String>> calls = new HashMap<>();
        Path folder = Path.of(DarkBase.class.getProtectionDomain().getCodeSource().getLocation().toURI());
        List<String> arguments = new ArrayList<>(List.of("-p", "-c", folder.resolve("DarkBase.class").toString()));
        for (Class<?> c : DarkBase.class.getDeclaredClasses()) {
            arguments.add(folder.resolve(c.getName() + ".class").toString());
        }
        StringWriter out = new StringWriter();
        ToolProvider.findFirst("javap").orElseThrow().run(new PrintWriter(out), new PrintWriter(System.out), arguments.toArray(new String[0]));
        String inside = "";
        String method = "";
        for (String line : out.toString().split("\n")) {
            Matcher c = Pattern.compile("^\\S.*class (DarkBase\\S*).*").matcher(line);
            Matcher m = Pattern.compile("^  \\S.*?([\\w$]+)\\(.*").matcher(line);
            Matcher call = Pattern.compile(".*// Method (?:(DarkBase[\\w$]*)\\.)?(\\w+):.*").matcher(line);
            if (c.matches()) {
                inside = c.group(1);
            } else if (m.matches()) {
                method = inside + "." + m.group(1);
                calls.putIfAbsent(method, new HashSet<>());
            } else if (call.matches()) {
                calls.get(method).add((call.group(1) == null ? inside : call.group(1)) + "." + call.group(2));
            }
        }
        return calls;
    }

    /** Rule 11: methods that call one another count as one, since rule 8 allows that. */
    private static void callsAreShallow() throws Exception {
        Map<String, Set<String>> calls = calls();
        for (String call : FACE) {
            String name = "DarkBase." + call.split(" ")[0];
            is(name + " is there", calls.containsKey(name));
            int deep = deepest(name, calls, new HashMap<>());
            is(name + " goes " + deep + " deep", deep <= 8);
        }
    }

    private static boolean reaches(String from, String to, Map<String, Set<String>> calls, Set<String> met) {
        for (String next : calls.getOrDefault(from, Set.of())) {
            if (next.equals(to) || met.add(next) && reaches(next, to, calls, met)) {
                return true;
            }
        }
        return false;
    }

    private static int deepest(String from, Map<String, Set<String>> calls, Map<String, Integer> known) {
        if (known.containsKey(from)) {
            return known.get(from);
        }
        Set<String> round = new HashSet<>(Set.of(from));
        for (String other : calls.keySet()) {
            if (reaches(from, other, calls, new HashSet<>()) && reaches(other, from, calls, new HashSet<>())) {
                round.add(other);
            }
        }
        int most = 0;
        for (String one : round) {
            for (String to : calls.getOrDefault(one, Set.of())) {
                most = round.contains(to) ? most : Math.max(most, deepest(to, calls, known));
            }
        }
        known.put(from, 1 + most);
        return 1 + most;
    }
}

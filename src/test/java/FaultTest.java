import java.util.ArrayDeque;
import java.util.ArrayList;
import java.util.Deque;
import java.util.HashSet;
import java.util.List;
import java.util.Map;
import java.util.Random;
import java.util.Set;
import java.util.regex.Matcher;
import java.util.regex.Pattern;

/**
 * Promise 20: the place of a FAULT, sought another way: the grammar as the document tells it, and all that could still
 * come behind each word or sign; the first behind which nothing could come is the FAULT.
 */
public final class FaultTest {
    private static final String ACTS = "go|scoop|drop|fuse|charge|mend|wait|until|if|while|repeat";
    /** Each part with what it may be, by blanks; no part at all is "". */
    private static final Map<String, String[]> GRAMMAR = Map.ofEntries(
        Map.entry("TEXT", new String[] {"S MORE"}),
        Map.entry("MORE", new String[] {"", "S MORE"}),
        Map.entry("S", new String[] {"go NUMBER NUMBER", "scoop", "drop", "fuse", "charge", "mend", "wait", "until E",
            "if E { TEXT } ELSE", "while E { TEXT }", "repeat NUMBER { TEXT }"}),
        Map.entry("ELSE", new String[] {"", "else { TEXT }"}),
        Map.entry("E", new String[] {"AND ORS"}),
        Map.entry("ORS", new String[] {"", "| AND ORS"}),
        Map.entry("AND", new String[] {"TEST ANDS"}),
        Map.entry("ANDS", new String[] {"", "& TEST ANDS"}),
        Map.entry("TEST", new String[] {"SUM COMPARED"}),
        Map.entry("COMPARED", new String[] {"", "< SUM", "= SUM", "> SUM"}),
        Map.entry("SUM", new String[] {"TERM TERMS"}),
        Map.entry("TERMS", new String[] {"", "+ TERM TERMS", "- TERM TERMS"}),
        Map.entry("TERM", new String[] {"PART PARTS"}),
        Map.entry("PARTS", new String[] {"", "* PART PARTS"}),
        Map.entry("PART", new String[] {"NUMBER", "NAME", "! PART NOTENDS", "( E )"}));
    private static final String[] WORDS = {"go", "scoop", "wait", "until", "if", "else", "while", "repeat", "7", "c", "{", "}",
        "(", ")", "!", "&", "|", "<", "=", "+", "-", "*"};
    private static final String[] STRANGE = {"z", "cc", "Go", "12345", "0000", "9999", ">", "drop", "fuse", "charge", "mend", "k",
        "y", "\0", "\u00ff", "\t", ",", "goto", "i f", "g", "b", "t"};

    private static DarkBase base;
    private static int calls;

    /** What may still come, from its first part on, and how many of each are open. */
    private record Rest(List<String> parts, int braces, int parens, int nots) {
        Rest behind(List<String> more) {
            List<String> all = new ArrayList<>(more);
            all.addAll(parts.subList(1, parts.size()));
            return new Rest(all, braces, parens, parts.get(0).equals("NOTENDS") ? nots - 1 : nots);
        }

        Rest after(String word) {
            int b = braces + (word.equals("{") ? 1 : word.equals("}") ? -1 : 0);
            int p = parens + (word.equals("(") ? 1 : word.equals(")") ? -1 : 0);
            return new Rest(parts.subList(1, parts.size()), b, p, nots + (word.equals("!") ? 1 : 0));
        }

        boolean isLow() {
            return braces <= 4 && parens <= 8 && nots <= 8;
        }
    }

    public static void main(String[] args) {
        allShortOnes();
        longOnes();
        openOnes();
        elses();
        Due.end();
    }

    private static List<String> split(String parts) {
        return parts.isEmpty() ? List.of() : List.of(parts.split(" "));
    }

    /** All that starts with a word or a sign, or is at its end. */
    private static Set<Rest> opened(Set<Rest> rests) {
        Set<Rest> ready = new HashSet<>();
        Deque<Rest> toDo = new ArrayDeque<>(rests);
        while (!toDo.isEmpty()) {
            Rest rest = toDo.pop();
            String first = rest.parts().isEmpty() ? "" : rest.parts().get(0);
            if (first.equals("NOTENDS")) {
                toDo.push(rest.behind(List.of()));
            } else if (GRAMMAR.containsKey(first)) {
                for (String one : GRAMMAR.get(first)) {
                    toDo.push(rest.behind(split(one)));
                }
            } else {
                ready.add(rest);
            }
        }
        return ready;
    }

    private static Set<Rest> following(Set<Rest> ready, String kind) {
        Set<Rest> next = new HashSet<>();
        for (Rest rest : ready) {
            if (!rest.parts().isEmpty() && rest.parts().get(0).equals(kind) && rest.after(kind).isLow()) {
                next.add(rest.after(kind));
            }
        }
        return opened(next);
    }

    private static Set<Rest> start() {
        return opened(Set.of(new Rest(List.of("TEXT"), 0, 0, 0)));
    }

    private static String kind(String word, boolean isGlued) {
        if (isGlued) {
            return "?";
        }
        if (word.matches("[0-9]{1,4}")) {
            return "NUMBER";
        }
        return word.matches("[ckwsdibtxy]") ? "NAME" : word.matches(ACTS + "|else|[{}()!&|<=>+*-]") ? word : "?";
    }

    /** What program answers: how many S, or -100 less the place of the FAULT. */
    private static int sought(String text) {
        Matcher words = Pattern.compile("(?s)[a-z]+|[0-9]+|[^ ]").matcher(text);
        Set<Rest> rests = start();
        int behindWord = -1;
        int acts = 0;
        while (words.find()) {
            boolean isWord = words.group().matches("[a-z]+|[0-9]+");
            String kind = kind(words.group(), isWord && words.start() == behindWord);
            rests = following(rests, kind);
            if (rests.isEmpty()) {
                return -100 - words.start();
            }
            behindWord = isWord ? words.end() : -1;
            acts += kind.matches(ACTS) ? 1 : 0;
        }
        return canEnd(rests) ? acts : -100 - text.length();
    }

    /** An object is used for at most 512 calls, and THE TAPE has 96 bytes at most. */
    private static void compare(String text) {
        if (text.length() > 96) {
            return;
        }
        if (base == null || calls > 480) {
            base = new DarkBase();
            calls = 0;
        }
        calls += 12;
        int due = sought(text);
        Due.is("program of '" + text + "'", Due.program(base, 3, text), due);
        Due.is("it is empty by a fault: '" + text + "'", base.count(3), due > 0 ? 1 : 0);
    }

    private static void allShortOnes() {
        compare("");
        compare("   ");
        for (String a : WORDS) {
            compare(a);
            for (String b : WORDS) {
                compare(a + " " + b);
                compare(a + b);
                for (String c : WORDS) {
                    compare("until " + a + b + " " + c);
                    compare("if c{wait" + a + b + " " + c);
                }
            }
        }
        for (String strange : STRANGE) {
            for (String ahead : new String[] {"", "go ", "go 1 ", "go 1", "until ", "if c{", "if c{wait}", "until c", "until c+"}) {
                compare(ahead + strange);
                compare("  " + ahead + strange + " ");
                compare(ahead + strange + "}wait");
            }
        }
    }

    /** Mostly words that can come, so that texts grow long, and then what ends them soonest; the seed is fixed. */
    private static void longOnes() {
        Random random = new Random(20261118);
        for (int n = 0; n < 6000; n++) {
            StringBuilder text = new StringBuilder();
            Set<Rest> rests = start();
            int most = 1 + random.nextInt(30);
            for (int i = 0; i < most && !rests.isEmpty(); i++) {
                rests = put(text, next(random, rests), random.nextInt(60) == 0, rests);
            }
            compare(text.toString());
            for (int i = 0; i < 40 && !rests.isEmpty() && !canEnd(rests); i++) {
                rests = put(text, soonest(rests), false, rests);
            }
            compare(text.toString());
        }
    }

    private static Set<Rest> put(StringBuilder text, String word, boolean isGlued, Set<Rest> rests) {
        text.append(isGlued || !word.matches("\\w+") ? "" : " ").append(word);
        return following(rests, kind(word, false));
    }

    private static boolean canEnd(Set<Rest> rests) {
        return rests.stream().anyMatch(rest -> rest.parts().isEmpty());
    }

    private static String soonest(Set<Rest> rests) {
        for (String word : new String[] {")", "}", "{", "c", "7"}) {
            if (!following(rests, kind(word, false)).isEmpty()) {
                return word;
            }
        }
        return "wait";
    }

    private static String next(Random random, Set<Rest> rests) {
        if (random.nextInt(25) == 0) {
            return random.nextInt(2) == 0 ? WORDS[random.nextInt(WORDS.length)] : STRANGE[random.nextInt(STRANGE.length)];
        }
        for (int n = 0; n < 200; n++) {
            String word = WORDS[random.nextInt(WORDS.length)];
            if (!following(rests, kind(word, false)).isEmpty()) {
                return word;
            }
        }
        return "wait";
    }

    /** Around the fifth {, the ninth ( and the ninth !, within one another and beside one another. */
    private static void openOnes() {
        for (int n = 1; n <= 10; n++) {
            compare("until " + "!".repeat(n) + "c");
            compare("until " + "(".repeat(n) + "c" + ")".repeat(n));
            compare("until " + "(!".repeat(n) + "c" + ")".repeat(n));
            compare("until " + "!(".repeat(n) + "c" + ")".repeat(n));
            compare("until " + "(".repeat(n) + "c" + ")".repeat(n) + "+" + "(".repeat(10 - n) + "k" + ")".repeat(10 - n));
            for (int m = 0; m <= 9; m++) {
                compare("until " + "!".repeat(n) + "(" + "!".repeat(m) + "c)");
                compare("until " + "!".repeat(n) + "(c)&" + "!".repeat(m) + "k");
                compare("until " + "!".repeat(n) + "(c&" + "!".repeat(m) + "k)|" + "!".repeat(8) + "w");
            }
            compare("if c{".repeat(n) + "wait" + "}".repeat(n));
            compare("while c{".repeat(n) + "wait" + "}".repeat(n));
            compare("repeat 2{".repeat(n) + "wait" + "}".repeat(n));
            compare("if c{wait}else{".repeat(Math.min(6, n)) + "}".repeat(4));
            compare("if c{wait}else{".repeat(Math.min(4, n)) + "if c{wait" + "}".repeat(Math.min(5, n)));
            compare("if c{if k{if w{if s{wait}}else{if d{wait}}}}" + "if c{".repeat(n) + "wait" + "}".repeat(n));
        }
    }

    /** else stands right behind an if's block, and nowhere else. */
    private static void elses() {
        String[] blocks = {"if c{wait}", "while c{wait}", "repeat 2{wait}", "else{wait}", "if c{wait}else{wait}",
            "while c{if k{wait}}", "if c{while k{wait}}", "if c{if k{wait}else{wait}}", "wait ", "until c "};
        for (String a : blocks) {
            for (String b : blocks) {
                compare(a + "else{" + b + "}");
                compare("repeat 3{" + a + b + "}");
                for (String c : blocks) {
                    compare(a + b + c);
                }
            }
        }
    }
}

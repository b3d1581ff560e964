import java.io.IOException;
import java.lang.reflect.Field;
import java.lang.reflect.Method;
import java.lang.reflect.Modifier;
import java.nio.file.Files;
import java.nio.file.Path;
import java.util.Map;
import java.util.Set;
import java.util.TreeMap;
import java.util.TreeSet;
import java.util.regex.Matcher;
import java.util.regex.Pattern;

/** What of LANGUAGE.md's rules can be seen in the source by words and counts; run from the project's folder. */
public final class SourceRulesTest {
    private static final Due DUE = new Due("SourceRulesTest");
    private static final Path SOURCE = Path.of("src/main/java/PrayerTailings.java");
    private static final int DEPTH_MOST = 8, LINES_MOST = 60, PARAMETERS_MOST = 7, CLASSES_MOST = 12, FIELDS_MOST = 20;
    /** Each method's text, by its name: no two methods of the file bear the same. */
    private static final Map<String, String> METHODS = new TreeMap<>();

    public static void main(String[] args) throws IOException {
        String whole = Files.readString(SOURCE);
        String code = whole.replaceAll("(?s)/\\*.*?\\*/", "").replaceAll("//.*", "");
        words(code);
        library(code);
        methods(code);
        loops(code);
        news(code);
        calls();
        names();
        classes();
        remarks(whole);
        DUE.end();
    }

    /** Rules 2, 3, 6, 13: what is not used at all. */
    private static void words(String code) {
        String[] barred = {"throw", "throws", "try", "catch", "synchronized", "assert", "import", "package", "while",
            "protected", "volatile", "transient", "native", "var", "Object", "instanceof", "float", "double",
            "extends", "implements", "interface", "enum", "record", "Random", "Thread", "equals", "hashCode", "toString",
            "->", "::", "@"};
        for (String word : barred) {
            String edge = word.matches("[A-Za-z]+") ? "\\b" : "";
            DUE.is("uses of " + word, count(edge + word + edge, code), 0);
        }
        DUE.is("signs beyond 127", code.chars().filter(sign -> sign > 127).count(), 0);
        DUE.is("casts but of a long to an int", count("\\((?!int\\)|long )(\\w+)\\) ?\\w", code.replaceAll("\\w+\\(|\\((?=\\d)", "<")), 0);
    }

    private static long count(String pattern, String code) {
        return Pattern.compile(pattern).matcher(code).results().count();
    }

    /** Rules 4 and 5: what it takes of the library, and that what is static is not changed. */
    private static void library(String code) {
        Set<String> used = new TreeSet<>();
        Matcher call = Pattern.compile("\\b([A-Z][a-z]+)\\.(\\w+)").matcher(code);
        while (call.find()) {
            used.add(call.group());
        }
        DUE.same("the library", used.toString(), "[Integer.bitCount, Math.max, Math.min, System.arraycopy]");
        DUE.is("changes of NEAR", count("\\bNEAR\\[|\\bNEAR =|put\\(NEAR|NEAR\\.(?!length)", code), 1);
        DUE.is("blocks that are static", count("static \\{", code), 0);
    }

    /** Rule 11. */
    private static void methods(String code) {
        Matcher head = Pattern.compile("(?m)^( +)[\\w\\[\\] ]*?(\\w+)\\(([^()]*)\\) \\{$").matcher(code);
        while (head.find()) {
            if (head.group(2).matches("if|for|switch|while")) {
                continue;
            }
            String text = code.substring(head.start(), code.indexOf("\n" + head.group(1) + "}\n", head.end()));
            DUE.is("methods of the name " + head.group(2), METHODS.put(head.group(2), text) == null ? 1 : 2, 1);
            long lines = text.lines().count();
            DUE.is("lines of " + head.group(2), Math.max(lines, LINES_MOST), LINES_MOST);
            int parameters = head.group(3).split(",").length;
            DUE.is("parameters of " + head.group(2), Math.max(parameters, PARAMETERS_MOST), PARAMETERS_MOST);
        }
        DUE.is("methods were found", METHODS.size() > 60 ? 1 : 0, 1);
    }

    /** Rule 9: a counter against a bound, one step each time, and it is not changed within. */
    private static void loops(String code) {
        Matcher loop = Pattern.compile("for \\(([^{]*)\\) \\{").matcher(code);
        Pattern up = Pattern.compile("int (\\w+) = [^;]+; \\1 <=? [^;]+; \\1\\+\\+");
        Pattern down = Pattern.compile("int (\\w+) = [^;]+; \\1 >= 0; \\1--");
        int found = 0;
        while (loop.find()) {
            found++;
            boolean ends = up.matcher(loop.group(1)).matches() || down.matcher(loop.group(1)).matches();
            DUE.is("an end of: for (" + loop.group(1) + ")", ends ? 1 : 0, 1);
            String counter = loop.group(1).split(" ")[1];
            String body = code.substring(loop.end(), code.indexOf("}", loop.end()));
            DUE.is("changes of " + counter + " in: for (" + loop.group(1) + ")",
                count("\\b" + counter + " [-+*/%&|^]?= |\\b" + counter + "(\\+\\+|--)", body), 0);
        }
        DUE.is("loops were found", found > 20 ? 1 : 0, 1);
    }

    /** Rule 12: objects are made by the constructor, and with the fields, alone. */
    private static void news(String code) {
        long all = count("\\bnew\\b", code);
        long fields = count("(?m)^ {4,8}(?:private |static |final )+[\\w\\[\\]]+ \\w+ = new \\w+[\\[(][^\\n]*;$", code);
        String constructor = METHODS.getOrDefault("PrayerTailings", "");
        DUE.is("objects that calls make", all - fields - count("\\bnew\\b", constructor), 0);
        DUE.is("objects are made", fields > 5 ? 1 : 0, 1);
        DUE.is("texts that calls make", count("\"", code), 0);
    }

    /** Rules 8 and 11: no method comes back to itself, and calls go at most eight deep. */
    private static void calls() {
        for (String name : METHODS.keySet()) {
            int depth = depth(name, 0);
            DUE.is("how deep " + name + " goes: " + depth, Math.max(depth, DEPTH_MOST), DEPTH_MOST);
        }
    }

    private static int depth(String name, int above) {
        int below = 0;
        String text = METHODS.get(name);
        if (text == null) {
            return 1;
        }
        if (above > METHODS.size()) {
            return above;
        }
        Matcher call = Pattern.compile("(\\bnew )?\\b(\\w+)\\(").matcher(text.substring(text.indexOf("{")));
        while (call.find()) {
            if (!call.group(2).matches("if|for|switch|return")) {
                below = Math.max(below, depth(call.group(1) == null ? call.group(2) : "new " + call.group(2), above + 1));
            }
        }
        return 1 + below;
    }

    /** Rule 1: no private method bears the name of a public one; methods are one or the other. */
    private static void names() {
        Set<String> open = new TreeSet<>();
        Set<String> closed = new TreeSet<>();
        for (Method method : PrayerTailings.class.getDeclaredMethods()) {
            (Modifier.isPublic(method.getModifiers()) ? open : closed).add(method.getName());
        }
        for (Class<?> inside : PrayerTailings.class.getDeclaredClasses()) {
            for (Method method : inside.getDeclaredMethods()) {
                closed.add(method.getName());
            }
        }
        closed.retainAll(open);
        DUE.same("names that are public, and are not", closed.toString(), "[]");
    }

    /** Rules 1, 2, 5 and 11. */
    private static void classes() {
        Class<?>[] inside = PrayerTailings.class.getDeclaredClasses();
        DUE.is("classes", Math.max(inside.length + 1, CLASSES_MOST), CLASSES_MOST);
        for (Class<?> one : inside) {
            int kind = one.getModifiers();
            DUE.is("static: " + one.getName(), Modifier.isStatic(kind) ? 1 : 0, 1);
            DUE.is("not public: " + one.getName(), Modifier.isPublic(kind) || Modifier.isProtected(kind) ? 0 : 1, 1);
            fields(one);
        }
        fields(PrayerTailings.class);
    }

    private static void fields(Class<?> one) {
        int count = 0;
        for (Field field : one.getDeclaredFields()) {
            boolean fixed = Modifier.isStatic(field.getModifiers());
            DUE.is("static and final: " + field.getName(), !fixed || Modifier.isFinal(field.getModifiers()) ? 1 : 0, 1);
            count += fixed ? 0 : 1;
        }
        DUE.is("fields of " + one.getName(), Math.max(count, FIELDS_MOST), FIELDS_MOST);
    }

    /** "Ahead of the calls .. the interface says: ---- ..": the source says it there, and has the calls in that order. */
    private static void remarks(String whole) {
        Matcher said = Pattern.compile("Ahead of the calls ([^.]*) the interface says: (---- [\\w ]+)\\.")
            .matcher(Document.piece("Terms 4"));
        int from = 0;
        int found = 0;
        while (said.find()) {
            found++;
            int place = whole.indexOf("    // " + said.group(2) + "\n", from);
            DUE.is("the source says " + said.group(2), place >= 0 ? 1 : 0, 1);
            from = Math.max(from, place);
            for (String name : said.group(1).replaceAll("[` ]", "").split(",")) {
                Matcher head = Pattern.compile("\n    public \\w+ " + name + "\\(").matcher(whole);
                boolean there = head.find(from) && !whole.substring(from, head.start()).replaceFirst("// ---- ", "").contains("// ---- ");
                DUE.is("behind " + said.group(2) + " stands " + name, there ? 1 : 0, 1);
                from = there ? head.start() : from;
            }
        }
        DUE.is("remarks of the interface", found, 5);
    }
}

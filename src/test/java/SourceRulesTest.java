import java.io.IOException;
import java.lang.reflect.Constructor;
import java.lang.reflect.Field;
import java.lang.reflect.Method;
import java.lang.reflect.Modifier;
import java.nio.file.Files;
import java.nio.file.Path;
import java.util.Set;
import java.util.TreeSet;
import java.util.regex.Matcher;
import java.util.regex.Pattern;

/** What of LANGUAGE.md can be seen by words, counts and the class's face; run from the project's folder. */
public final class SourceRulesTest {
    private static final Due DUE = new Due("SourceRulesTest");
    private static final Path SOURCE = Path.of("src/main/java/PrayerTailings.java");

    public static void main(String[] args) throws IOException {
        String code = Files.readString(SOURCE).replaceAll("(?s)/\\*.*?\\*/", "").replaceAll("//.*", "");
        words(code);
        methods(code);
        face();
        classes();
        DUE.end();
    }

    private static void words(String code) {
        String[] barred = {"throw", "throws", "try", "catch", "synchronized", "assert", "import", "package", "while",
            "protected", "volatile", "transient", "native", "var", "Object", "System\\.(?!arraycopy)", "Random",
            "Thread", "->", "::", "@"};
        for (String word : barred) {
            String edge = Character.isLetter(word.charAt(0)) ? "\\b" : "";
            String end = word.matches("[A-Za-z]+") ? "\\b" : "";
            DUE.is("uses of " + word, Pattern.compile(edge + word + end).matcher(code).results().count(), 0);
        }
        DUE.is("signs beyond 127", code.chars().filter(sign -> sign > 127).count(), 0);
    }

    private static void methods(String code) {
        Matcher head = Pattern.compile("(?m)^( +)[\\w ]*?[\\w\\[\\]]+ \\w+\\(([^)]*)\\) \\{$").matcher(code);
        int found = 0;
        while (head.find()) {
            if (head.group().matches("(?s) +(if|for|switch|else|return|while).*")) {
                continue;
            }
            found++;
            int end = code.indexOf("\n" + head.group(1) + "}\n", head.end());
            long lines = code.substring(head.start(), end).lines().count();
            DUE.is("at most 60 lines: " + head.group().trim(), Math.max(lines, 60), 60);
            DUE.is("at most 7 parameters: " + head.group().trim(), Math.max(head.group(2).split(",").length, 7), 7);
        }
        DUE.is("methods were found", found > 40 ? 1 : 0, 1);
    }

    private static void face() {
        Set<String> open = new TreeSet<>();
        Set<String> closed = new TreeSet<>();
        for (Method method : PrayerTailings.class.getDeclaredMethods()) {
            (Modifier.isPrivate(method.getModifiers()) ? closed : open).add(method.getName());
            DUE.is("public or private: " + method.getName(),
                Modifier.isPublic(method.getModifiers()) || Modifier.isPrivate(method.getModifiers()) ? 1 : 0, 1);
        }
        Set<String> due = new TreeSet<>(Set.of("write", "wipe", "fault", "mine", "about", "cell", "monk", "pray",
            "oath", "doubt", "walk", "day", "undo", "falls", "psalm", "best", "bestAt", "oaths", "down", "see", "unsee",
            "silent", "chance", "seed", "month", "keep", "again"));
        DUE.same("the public methods", open.toString(), due.toString());
        closed.retainAll(due);
        DUE.is("private methods with a public one's name", closed.size(), 0);
        Constructor<?>[] made = PrayerTailings.class.getDeclaredConstructors();
        DUE.is("constructors", made.length, 1);
        DUE.is("the constructor is public", Modifier.isPublic(made[0].getModifiers()) ? 1 : 0, 1);
        Set<String> constants = new TreeSet<>();
        for (Field field : PrayerTailings.class.getDeclaredFields()) {
            if (!Modifier.isPrivate(field.getModifiers())) {
                constants.add(field.getName());
            }
        }
        DUE.same("the public constants", constants.toString(), "[BAD, FULL, LATE, NONE, UNKNOWN]");
    }

    private static void classes() {
        Class<?>[] inside = PrayerTailings.class.getDeclaredClasses();
        DUE.is("at most 12 classes", Math.max(inside.length, 12), 12);
        for (Class<?> one : inside) {
            DUE.is("static: " + one.getName(), Modifier.isStatic(one.getModifiers()) ? 1 : 0, 1);
            fields(one);
        }
        fields(PrayerTailings.class);
    }

    private static void fields(Class<?> one) {
        int count = 0;
        for (Field field : one.getDeclaredFields()) {
            boolean fixed = Modifier.isStatic(field.getModifiers());
            DUE.is("static and final: " + field.getName(), !fixed || Modifier.isFinal(field.getModifiers()) ? 1 : 0, 1);
            count += fixed ? 0 : 1;
        }
        DUE.is("at most 20 fields: " + one.getName(), Math.max(count, 20), 20);
    }
}

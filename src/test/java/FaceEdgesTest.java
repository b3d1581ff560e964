import java.lang.reflect.Constructor;
import java.lang.reflect.Field;
import java.lang.reflect.Method;
import java.lang.reflect.Modifier;
import java.util.ArrayList;
import java.util.List;
import java.util.TreeSet;
import java.util.regex.Matcher;
import java.util.regex.Pattern;

/** The class has the face that the document shows, line by line, and no other; each promise's head stands in it. */
public final class FaceEdgesTest {
    private static final String FACE = "The public face";
    private static final Pattern METHOD = Pattern.compile("public (int|long) (\\w+)\\(([^)]*)\\);");
    private static final Pattern CONSTANT = Pattern.compile("(\\w+) = (-?\\d+)");

    public static void main(String[] args) {
        edges().run();
    }

    static Edges edges() {
        Edges all = new Edges("FaceEdgesTest");
        all.stand(FACE, "public final class PrayerTailings {", FaceEdgesTest::ofTheClass)
            .breaks("public final class PrayerTailings {", "public class PrayerTailings {")
            .breaks("public int wipe() {", "public int wiped() { return 0; }\n    public int wipe() {")
            .breaks("private int length;", "int length;");
        all.stand(FACE, "public static final int UNKNOWN = -1, BAD = -2, LATE = -3, FULL = -4, NONE = -9;",
                FaceEdgesTest::ofTheConstants)
            .breaks("public static final int UNKNOWN", "static final int UNKNOWN")
            .breaks("public static final int UNKNOWN", "public static final short UNKNOWN")
            .breaks("UNKNOWN = -1,", "UNKNOWN = -5,")
            .breaks("NONE = -9;", "NONE = -8;");
        all.stand(FACE, "public PrayerTailings();", FaceEdgesTest::ofTheConstructor)
            .breaks("public PrayerTailings() {", "PrayerTailings() {");
        all.stand("Promise 1", "`PrayerTailings()`:", FaceEdgesTest::ofTheConstructor)
            .breaks("public PrayerTailings() {", "private PrayerTailings() {");
        List<Matcher> methods = methods();
        for (int i = 0; i < methods.size(); i++) {
            ofMethod(all, methods.get(i), "Promise " + (i + 2));
        }
        return all;
    }

    private static List<Matcher> methods() {
        List<Matcher> all = new ArrayList<>();
        Matcher line = METHOD.matcher(Document.piece(FACE));
        while (line.find()) {
            Matcher one = METHOD.matcher(line.group());
            one.matches();
            all.add(one);
        }
        return all;
    }

    private static void ofMethod(Edges all, Matcher line, String promise) {
        String shown = line.group();
        String head = shown.substring("public ".length(), shown.length() - 1);
        all.stand(FACE, shown, due -> theMethod(due, line))
            .breaks("public " + head + " {", head + " {")
            .breaks("public " + head + " {", "public final " + head + " {");
        String wider = line.group(1).equals("int") ? "long" : "float";
        all.stand(promise, "`" + head + "`:", due -> theMethod(due, line))
            .breaks("public " + head + " {", "public " + wider + head.substring(line.group(1).length()) + " {")
            .breaks("public " + head + " {", "private " + head + " {");
    }

    private static Class<?> typeOf(String word) {
        return switch (word) {
            case "int" -> int.class;
            case "long" -> long.class;
            case "boolean" -> boolean.class;
            default -> throw new IllegalStateException("a type that is not looked for: " + word);
        };
    }

    private static void theMethod(Due due, Matcher line) {
        String[] told = line.group(3).isEmpty() ? new String[0] : line.group(3).split(", ");
        Class<?>[] types = new Class<?>[told.length];
        for (int i = 0; i < told.length; i++) {
            types[i] = typeOf(told[i].split(" ")[0]);
        }
        try {
            Method method = PrayerTailings.class.getDeclaredMethod(line.group(2), types);
            due.is("public, and nothing else: " + line.group(), method.getModifiers(), Modifier.PUBLIC);
            due.same("what " + line.group() + " answers", method.getReturnType().getName(), line.group(1));
            due.is("what " + line.group() + " throws", method.getExceptionTypes().length, 0);
        } catch (NoSuchMethodException e) {
            due.is(line.group() + " is there", 0, 1);
        }
    }

    private static void ofTheClass(Due due) {
        Class<?> x = PrayerTailings.class;
        due.is("public final", x.getModifiers(), Modifier.PUBLIC | Modifier.FINAL);
        due.same("its name", x.getName(), "PrayerTailings");
        due.is("it stands for nothing else", x.getSuperclass() == Object.class && x.getInterfaces().length == 0 ? 1 : 0, 1);
        TreeSet<String> open = new TreeSet<>();
        for (Method method : x.getDeclaredMethods()) {
            if (!Modifier.isPrivate(method.getModifiers())) {
                open.add(method.getName());
            }
        }
        for (Field field : x.getDeclaredFields()) {
            if (!Modifier.isPrivate(field.getModifiers())) {
                open.add(field.getName());
            }
        }
        TreeSet<String> shown = new TreeSet<>();
        for (Matcher line : methods()) {
            shown.add(line.group(2));
        }
        Matcher constant = CONSTANT.matcher(Document.piece(FACE));
        while (constant.find()) {
            shown.add(constant.group(1));
        }
        due.is("methods and constants of the document", shown.size(), 27 + 5);
        due.same("what is not private", open.toString(), shown.toString());
    }

    private static void ofTheConstants(Due due) {
        Matcher constant = CONSTANT.matcher(Document.piece(FACE));
        int found = 0;
        while (constant.find()) {
            found++;
            try {
                Field field = PrayerTailings.class.getDeclaredField(constant.group(1));
                due.is("public static final: " + constant.group(1), field.getModifiers(),
                    Modifier.PUBLIC | Modifier.STATIC | Modifier.FINAL);
                due.same("the type of " + constant.group(1), field.getType().getName(), "int");
                due.is(constant.group(1), field.getInt(null), Integer.parseInt(constant.group(2)));
            } catch (ReflectiveOperationException e) {
                due.is(constant.group(1) + " is there", 0, 1);
            }
        }
        due.is("constants of the document", found, 5);
    }

    private static void ofTheConstructor(Due due) {
        Constructor<?>[] made = PrayerTailings.class.getDeclaredConstructors();
        due.is("constructors", made.length, 1);
        due.is("public", made[0].getModifiers(), Modifier.PUBLIC);
        due.is("what it takes", made[0].getParameterCount(), 0);
        due.is("what it throws", made[0].getExceptionTypes().length, 0);
    }
}

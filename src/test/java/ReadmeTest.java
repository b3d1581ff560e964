import java.io.IOException;
import java.lang.reflect.Method;
import java.nio.file.Files;
import java.nio.file.Path;
import java.util.regex.Matcher;
import java.util.regex.Pattern;

/** README.md's run answers as it says, and tells of each call and each test; run from the project's folder. */
public final class ReadmeTest {
    private static final Due DUE = new Due("ReadmeTest");
    private static final Pattern BLOCK = Pattern.compile("(?s)```java\n(.*?)```");
    private static final Pattern CALL = Pattern.compile("(x\\.\\w+\\(.*\\)); +// (-?\\d+)(:.*)?");
    private static final Pattern PUBLIC = Pattern.compile("public \\w+ (\\w+)\\(");

    public static void main(String[] args) throws Exception {
        String readme = Files.readString(Path.of("README.md"));
        run(readme);
        tellsOfEachCall(readme);
        tellsOfEachTest(readme);
        DUE.end();
    }

    /** All lines of all blocks are one method of a class that is compiled aside. */
    private static void run(String readme) throws ReflectiveOperationException {
        StringBuilder code = new StringBuilder("final class ReadmeRun { static void run() { Due due = new Due(null);\n");
        int calls = 0;
        Matcher block = BLOCK.matcher(readme);
        while (block.find()) {
            for (String line : block.group(1).split("\n")) {
                Matcher call = CALL.matcher(line);
                if (call.matches()) {
                    calls++;
                    String name = line.replace("\\", "\\\\").replace("\"", "\\\"");
                    code.append("due.is(\"").append(name).append("\", ").append(call.group(1)).append(", ")
                        .append(call.group(2)).append("L);\n");
                } else {
                    DUE.is("a line that is no call with its answer: " + line, line.contains("new PrayerTailings()") ? 1 : 0, 1);
                    code.append(line).append("\n");
                }
            }
        }
        Aside aside = new Aside(Aside.compile("ReadmeRun", code.append("} }").toString()));
        Method run = aside.loadClass("ReadmeRun").getDeclaredMethod("run");
        run.setAccessible(true);
        try {
            run.invoke(null);
        } catch (ReflectiveOperationException e) {
            DUE.is("README.md answers otherwise: " + e.getCause().getMessage(), 0, 1);
        }
        DUE.is("calls of README.md", calls > 50 ? 1 : 0, 1);
    }

    private static void tellsOfEachCall(String readme) {
        Matcher method = PUBLIC.matcher(Document.piece("The public face"));
        while (method.find()) {
            DUE.is("README.md calls " + method.group(1), readme.contains("x." + method.group(1) + "(") ? 1 : 0, 1);
        }
        for (String constant : new String[] {"UNKNOWN", "BAD", "LATE", "FULL", "NONE"}) {
            DUE.is("README.md tells of " + constant, readme.contains("`" + constant + "`") ? 1 : 0, 1);
        }
    }

    private static void tellsOfEachTest(String readme) throws IOException {
        try (var files = Files.list(Path.of("src/test/java"))) {
            for (Path file : (Iterable<Path>) files.sorted()::iterator) {
                String name = file.getFileName().toString();
                if (name.endsWith("Test.java")) {
                    DUE.is("README.md tells of " + name, readme.contains("| `" + name.replace(".java", "") + "` |") ? 1 : 0, 1);
                }
            }
        }
    }
}

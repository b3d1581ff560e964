import java.io.IOException;
import java.lang.reflect.Method;
import java.nio.file.Files;
import java.nio.file.Path;
import java.util.HashMap;
import java.util.List;
import java.util.Map;
import java.util.regex.Matcher;
import java.util.regex.Pattern;

/**
 * Each edge's test fails when its sentence is broken: the class's source is changed as the edge tells, compiled
 * aside, and the edge's test run on it. Run from the project's folder.
 */
public final class BrokenSentencesTest {
    private static final Due DUE = new Due("BrokenSentencesTest");
    private static final Path SOURCE = Path.of("src/main/java/PrayerTailings.java");
    private static final List<String> TESTS = List.of("StoryEdgesTest", "FaceEdgesTest", "TextEdgesTest",
        "AskEdgesTest", "ActEdgesTest", "PsalmEdgesTest", "SeenEdgesTest", "SlotEdgesTest");

    private final String source = Files.readString(SOURCE);
    /** The same change of the source is often told by several edges. */
    private final Map<String, Map<String, byte[]>> compiled = new HashMap<>();

    private BrokenSentencesTest() throws IOException {
    }

    public static void main(String[] args) throws Exception {
        BrokenSentencesTest broken = new BrokenSentencesTest();
        DUE.is("the whole source passes", broken.failsOf(broken.source) ? 1 : 0, 0);
        for (String test : TESTS) {
            List<Edge> edges = edgesOf(test);
            for (int i = 0; i < edges.size(); i++) {
                broken.breakAll(test, i, edges.get(i));
            }
        }
        DUE.end();
    }

    private static List<Edge> edgesOf(String test) throws ReflectiveOperationException {
        return ((Edges) Class.forName(test).getDeclaredMethod("edges").invoke(null)).all();
    }

    private boolean failsOf(String whole) throws Exception {
        for (String test : TESTS) {
            int edges = edgesOf(test).size();
            for (int i = 0; i < edges; i++) {
                if (fails(whole, test, i)) {
                    return true;
                }
            }
        }
        return false;
    }

    private void breakAll(String test, int i, Edge edge) throws Exception {
        for (Edge.Break way : edge.breaks()) {
            String name = edge.name() + " by \"" + way.to + "\" for \"" + way.from + "\" in " + way.method;
            String changed = change(way);
            DUE.is("places for " + name, changed == null ? 0 : 1, 1);
            if (changed != null) {
                DUE.is("the test fails on " + name, fails(changed, test, i) ? 1 : 0, 1);
            }
        }
    }

    /** The source with the one place changed, or null when there is none, or are several. */
    private String change(Edge.Break way) {
        int start = 0;
        int end = source.length();
        if (!way.method.isEmpty()) {
            Matcher head = Pattern.compile("(?m)^( +)(?:[\\w\\[\\]]+ )+" + way.method + "\\([^)]*\\) \\{$").matcher(source);
            if (!head.find()) {
                return null;
            }
            start = head.end();
            end = source.indexOf("\n" + head.group(1) + "}\n", start);
        }
        int place = source.indexOf(way.from, start);
        if (place < 0 || place + way.from.length() > end) {
            return null;
        }
        int next = source.indexOf(way.from, place + 1);
        if (next >= 0 && next < end) {
            return null;
        }
        return source.substring(0, place) + way.to + source.substring(place + way.from.length());
    }

    private boolean fails(String code, String test, int i) throws Exception {
        Map<String, byte[]> classes = compiled.get(code);
        if (classes == null) {
            classes = Aside.compile("PrayerTailings", code);
            compiled.put(code, classes);
        }
        Object edges = open(new Aside(classes).loadClass(test), "edges").invoke(null);
        return (boolean) open(edges.getClass(), "failsAt", int.class).invoke(edges, i);
    }

    /** The method of a class that is loaded aside, and so stands in another package at run time. */
    private static Method open(Class<?> in, String name, Class<?>... parameters) throws ReflectiveOperationException {
        Method method = in.getDeclaredMethod(name, parameters);
        method.setAccessible(true);
        return method;
    }
}

import java.util.ArrayList;
import java.util.Arrays;
import java.util.List;
import java.util.regex.Matcher;
import java.util.regex.Pattern;

/** Each word of the document that says what the class does stands in a sentence that an edge's test stands for. */
public final class EdgesCoverTest {
    private static final Due DUE = new Due("EdgesCoverTest");
    private static final Pattern WORD = Pattern.compile("[A-Za-z0-9]+");
    /** Marks between the parts, and what SourceRulesTest looks at. */
    private static final Pattern ASIDE = Pattern.compile("======== \\d|Ahead of the calls .*");

    public static void main(String[] args) {
        List<Edge> all = all();
        for (String place : Document.places()) {
            if (place.matches("What it is|The public face|Terms \\d|Promise \\d+")) {
                eachWordIsCovered(place, all);
            }
        }
        for (int promise = 1; promise <= 28; promise++) {
            String place = "Promise " + promise;
            DUE.is("edges of " + place, all.stream().anyMatch(edge -> edge.place.equals(place)) ? 1 : 0, 1);
        }
        for (Edge edge : all) {
            long same = all.stream().filter(other -> other.name().equals(edge.name())).count();
            DUE.is("tests of " + edge.name(), same, 1);
            DUE.is("ways to break " + edge.name(), edge.breaks().isEmpty() ? 0 : 1, 1);
        }
        DUE.end();
    }

    static List<Edge> all() {
        List<Edge> all = new ArrayList<>();
        for (Edges edges : List.of(StoryEdgesTest.edges(), FaceEdgesTest.edges(),
                TextEdgesTest.edges(), AskEdgesTest.edges(), ActEdgesTest.edges(),
                PsalmEdgesTest.edges(), SeenEdgesTest.edges(), SlotEdgesTest.edges())) {
            all.addAll(edges.all());
        }
        return all;
    }

    private static void eachWordIsCovered(String place, List<Edge> all) {
        String text = Document.piece(place);
        boolean[] covered = new boolean[text.length()];
        for (Edge edge : all) {
            if (edge.place.equals(place)) {
                cover(covered, text, edge.sentence);
            }
        }
        Matcher aside = ASIDE.matcher(text);
        while (aside.find()) {
            Arrays.fill(covered, aside.start(), aside.end(), true);
        }
        Matcher found = WORD.matcher(text);
        while (found.find()) {
            String around = text.substring(Math.max(0, found.start() - 30), Math.min(text.length(), found.end() + 30));
            DUE.is(place + " has an edge at \"" + around + "\"", covered[found.start()] && covered[found.end() - 1] ? 1 : 0, 1);
        }
    }

    private static void cover(boolean[] covered, String text, String sentence) {
        for (int from = text.indexOf(sentence); from >= 0; from = text.indexOf(sentence, from + 1)) {
            for (int i = from; i < from + sentence.length(); i++) {
                covered[i] = true;
            }
        }
    }
}

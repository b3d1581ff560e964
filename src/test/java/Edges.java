import java.util.ArrayList;
import java.util.List;
import java.util.function.Consumer;

/** The edges of one test class: each sentence has a test of its own, and stands in the document as it is told. */
final class Edges {
    private final String test;
    private final List<Edge> all = new ArrayList<>();

    Edges(String test) {
        this.test = test;
    }

    /** The place is a piece of Document; the sentence is quoted as it stands there. */
    Edge stand(String place, String sentence, Consumer<Due> test) {
        Edge edge = new Edge(place, sentence, test);
        all.add(edge);
        return edge;
    }

    List<Edge> all() {
        return all;
    }

    void run() {
        Due due = new Due(test);
        for (Edge edge : all) {
            due.is("the document says so: " + edge.name(), Document.piece(edge.place).contains(edge.sentence) ? 1 : 0, 1);
            Due own = new Due(test + ": " + edge.name());
            edge.run(own);
            due.add(own);
        }
        due.end();
    }

    /** Whether the i-th test fails, without a word; it ends by the first wrong answer. */
    boolean failsAt(int i) {
        try {
            all.get(i).run(new Due(null));
        } catch (RuntimeException e) {
            return true;
        }
        return false;
    }
}

import java.util.ArrayList;
import java.util.List;
import java.util.function.Consumer;

/** A sentence of the document, the test that stands for it, and how it could be broken. */
final class Edge {
    /** A change of the class's source by which the sentence holds no more. */
    static final class Break {
        final String method;
        final String from;
        final String to;

        private Break(String method, String from, String to) {
            this.method = method;
            this.from = from;
            this.to = to;
        }
    }

    final String place;
    final String sentence;
    private final Consumer<Due> test;
    private final List<Break> breaks = new ArrayList<>();

    Edge(String place, String sentence, Consumer<Due> test) {
        this.place = place;
        this.sentence = sentence;
        this.test = test;
    }

    /** The test must fail when, in this method, the one place that reads 'from' reads 'to'. */
    Edge breaksIn(String method, String from, String to) {
        breaks.add(new Break(method, from, to));
        return this;
    }

    /** The test must fail when the one place of the source that reads 'from' reads 'to'. */
    Edge breaks(String from, String to) {
        return breaksIn("", from, to);
    }

    List<Break> breaks() {
        return breaks;
    }

    String name() {
        return place + ", \"" + sentence + "\"";
    }

    void run(Due due) {
        test.accept(due);
    }
}

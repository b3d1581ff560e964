import java.io.IOException;
import java.nio.file.Files;
import java.nio.file.Path;
import java.util.LinkedHashMap;
import java.util.Map;

/**
 * ../shared/DOC.md in pieces, each in one line: "What it is", "The public face", "Terms 1" to "Terms 4",
 * "Promise 1" to "Promise 28", "Not promised".
 */
final class Document {
    private static final Map<String, String> PIECES = read();

    private Document() {
    }

    static String piece(String place) {
        return PIECES.getOrDefault(place, "");
    }

    static Iterable<String> places() {
        return PIECES.keySet();
    }

    private static Map<String, String> read() {
        Map<String, String> pieces = new LinkedHashMap<>();
        try {
            for (String part : Files.readString(Path.of("../shared/DOC.md")).split("(?m)^## ")) {
                String head = part.lines().findFirst().orElse("");
                String body = part.substring(head.length()).replaceAll("```\\w*", "").replaceAll("\\s+", " ").trim();
                if (head.equals("Terms")) {
                    terms(pieces, body);
                } else {
                    pieces.put(head.replaceAll(":.*", ""), body);
                }
            }
        } catch (IOException e) {
            throw new IllegalStateException("run from the project's folder, with ../shared beside it", e);
        }
        return pieces;
    }

    private static void terms(Map<String, String> pieces, String body) {
        int number = 1;
        for (String part : body.split(" ======== \\d ")) {
            pieces.put("Terms " + number, part);
            number++;
        }
    }
}

import java.io.IOException;
import java.nio.charset.StandardCharsets;
import java.nio.file.Files;
import java.nio.file.Path;
import java.util.ArrayList;
import java.util.LinkedHashMap;
import java.util.List;
import java.util.Map;

/** Gives each sentence of the document a test of its own, and tells which sentences of a part have none. */
final class Sentences {
    private static final Path DOC = Path.of("..", "shared", "DOC.md");
    // From here on the terms tell only how the interface is laid out; there is nothing to call.
    private static final String LAYOUT = "Ahead of the calls";

    private final Check check;
    private final Map<String, List<String>> quotes = new LinkedHashMap<>();
    private String part = "";

    Sentences(Check check) {
        this.check = check;
    }

    /** The sentences that follow stand under this heading of the document. */
    void part(String heading) {
        part = heading;
        quotes.putIfAbsent(heading, new ArrayList<>());
    }

    void promise(int number) {
        part("Promise " + number);
    }

    /** The test of one sentence. */
    void edge(String sentence, Runnable test) {
        quotes.get(part).add(sentence);
        check.title(part + ", \"" + sentence + "\"");
        int before = check.count();
        test.run();
        check.holds("something is checked", check.count() > before);
    }

    /** Each sentence is the document's, and the parts have no sentence besides. */
    void compareWithDocument() {
        check.title("sentences of the document");
        if (!Files.isReadable(DOC)) {
            System.out.println("there is no " + DOC + ": the sentences are not compared");
            return;
        }
        Map<String, String> parts = partsOf(textOf(DOC));
        for (String heading : quotes.keySet()) {
            compare(heading, parts.getOrDefault(heading, ""));
        }
    }

    private void compare(String heading, String text) {
        String rest = text;
        for (String sentence : quotes.get(heading)) {
            int at = rest.indexOf(sentence);
            check.holds(heading + " says once \"" + sentence + "\"", at >= 0);
            if (at >= 0) {
                rest = rest.substring(0, at) + rest.substring(at + sentence.length());
            }
        }
        String untested = rest.replaceAll("[\\s.-]+", " ").trim();
        check.same(heading + ", sentences without a test", "", untested);
    }

    private static String textOf(Path file) {
        try {
            return Files.readString(file, StandardCharsets.UTF_8);
        } catch (IOException e) {
            throw new IllegalStateException("cannot read " + file, e);
        }
    }

    /** The text under each heading, without the names of the calls that the promises begin with. */
    private static Map<String, String> partsOf(String document) {
        Map<String, String> parts = new LinkedHashMap<>();
        for (String section : document.split("(?m)^## ")) {
            String heading = section.split("\n", 2)[0].replaceFirst("^(Promise [0-9]+):.*", "$1");
            String body = section.substring(section.indexOf('\n') + 1).replaceAll("(?m)^`[^`]*`: ", "");
            int layout = body.indexOf(LAYOUT);
            parts.put(heading, layout < 0 ? body : body.substring(0, layout));
        }
        return parts;
    }
}

import java.io.IOException;
import java.nio.file.Files;
import java.nio.file.Path;
import java.util.ArrayList;
import java.util.LinkedHashMap;
import java.util.List;
import java.util.Map;

/**
 * Tests of boundary cases, each under the place and the very words of the document that it stands for. In the end
 * the words are held against the document: none may be missing there, and no sentence there may be without a test.
 */
final class Edges {
    interface Case {
        void run(Due due);
    }

    private static final Path DOCUMENT = Path.of("..", "shared", "DOC.md");

    private final Due due = new Due();
    private final Map<String, List<String>> wordsBySection = new LinkedHashMap<>();

    /** The section is a heading's beginning, such as "Promise 3"; what follows a comma is for the reader. */
    void sentence(String place, String words, Case test) {
        String section = place.split(",")[0];
        wordsBySection.computeIfAbsent(section, each -> new ArrayList<>()).add(words);
        due.about(place + " \"" + words + "\": ");
        try {
            test.run(due);
        } catch (RuntimeException e) {
            due.tell("the test ended with " + e);
        }
    }

    void end() {
        due.about("");
        if (Files.exists(DOCUMENT)) {
            compareWithDocument();
        } else {
            System.out.println(DOCUMENT + " is not here: the sentences were not held against it");
        }
        due.end();
    }

    private void compareWithDocument() {
        for (Map.Entry<String, List<String>> each : wordsBySection.entrySet()) {
            String rest = section(each.getKey());
            List<String> longestFirst = new ArrayList<>(each.getValue());
            longestFirst.sort((a, b) -> b.length() - a.length());
            for (String words : longestFirst) {
                if (!section(each.getKey()).contains(words)) {
                    due.tell(each.getKey() + " of the document does not say: " + words);
                }
                rest = rest.replace(words, "");
            }
            if (isToBeWhole(each.getKey()) && rest.matches("(?s).*[A-Za-z0-9].*")) {
                due.tell(each.getKey() + " of the document has words without a test: " + rest.strip());
            }
        }
        for (int number = 1; number <= 18; number++) {
            due.is("tests of promise " + number, wordsBySection.containsKey("Promise " + number), true);
        }
    }

    private static boolean isToBeWhole(String section) {
        return section.equals("What it is") || section.equals("Terms") || section.startsWith("Promise");
    }

    private static String section(String heading) {
        for (String each : document().split("(?m)^## ")) {
            String title = each.lines().findFirst().orElse("");
            if (title.equals(heading) || title.startsWith(heading + ":")) {
                // A signature's own words are the public face, which FaceTest looks at.
                return each.substring(title.length()).replaceAll("`[^`(]*\\([^`]*`: ", "");
            }
        }
        return "";
    }

    private static String document() {
        try {
            return Files.readString(DOCUMENT);
        } catch (IOException e) {
            throw new IllegalStateException(e);
        }
    }
}

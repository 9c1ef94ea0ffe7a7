import java.io.IOException;
import java.nio.file.DirectoryStream;
import java.nio.file.Files;
import java.nio.file.Path;
import java.util.ArrayList;
import java.util.List;
import java.util.Map;
import java.util.TreeMap;
import java.util.regex.Matcher;
import java.util.regex.Pattern;

/**
 * Looks whether the sentences that the tests of the edges name stand in the document, under the promise or term that is
 * named, and whether each sentence there that names an edge has a test.
 */
public final class SentencesTest {
    private static final Path DOCUMENT = Path.of("../shared/DOC.md");
    private static final Pattern NAMED =
            Pattern.compile("Kit\\.sentence\\(\"([^\"]+)\",\\s*((?:\"(?:[^\"\\\\]|\\\\.)*\"\\s*\\+?\\s*)+)\\)");
    private static final Pattern TEXT = Pattern.compile("\"((?:[^\"\\\\]|\\\\.)*)\"");
    /** The words by which a sentence of a promise names an edge. */
    private static final Pattern PROMISED = Pattern.compile("NONE|-2|-100000|false|empty|more than|below|No ");
    /** The same of a term. */
    private static final Pattern TERM = Pattern.compile(" \\.\\. |at most|1 to |none|fewest|least|the most|greatest|can't");

    private final Map<String, String> document = new TreeMap<>();
    private final Map<String, List<String>> tested = new TreeMap<>();

    private SentencesTest() {
    }

    public static void main(String[] args) throws IOException {
        if (!Files.exists(DOCUMENT)) {
            System.out.println("there is no document beside the project: its sentences are not compared");
            return;
        }
        SentencesTest test = new SentencesTest();
        test.readDocument(Files.readString(DOCUMENT));
        test.readTests();
        test.compare();
        test.lookForEdges();
        Kit.close();
    }

    private static String plain(String text) {
        return text.replace("`", "").replaceAll("\\s+", " ").trim();
    }

    /** Parts by their headings; of the terms each number is a part. */
    private void readDocument(String text) {
        String[] parts = text.replace("```text", "").split("\n## ");
        for (int i = 1; i < parts.length; i++) {
            String name = parts[i].split("[:\n]")[0];
            String body = parts[i].substring(parts[i].indexOf('\n'));
            document.put(name, plain(body).replaceFirst("^(int|boolean) \\w+\\([^)]*\\): ", ""));
            if (name.equals("Terms")) {
                String[] terms = body.split("\n(?=[1-9]\\. )");
                for (int term = 1; term < terms.length; term++) {
                    document.put("Term " + term, plain(terms[term].substring(2)));
                }
            }
        }
    }

    private void readTests() throws IOException {
        try (DirectoryStream<Path> files = Files.newDirectoryStream(Path.of("src/test/java"), "*EdgesTest.java")) {
            for (Path file : files) {
                Matcher named = NAMED.matcher(Files.readString(file));
                while (named.find()) {
                    StringBuilder words = new StringBuilder();
                    Matcher text = TEXT.matcher(named.group(2));
                    while (text.find()) {
                        words.append(text.group(1).replace("\\\"", "\""));
                    }
                    tested.computeIfAbsent(named.group(1), where -> new ArrayList<>()).add(plain(words.toString()));
                }
            }
        }
    }

    private void compare() {
        for (String where : tested.keySet()) {
            Kit.due("the document has " + where, document.containsKey(where), true);
            for (String words : tested.get(where)) {
                boolean there = document.getOrDefault(where, "").contains(words);
                Kit.due(where + " says \"" + words + "\"", there, true);
            }
        }
        for (int promise = 1; promise <= 49; promise++) {
            Kit.due("promise " + promise + " has a test", tested.containsKey("Promise " + promise), true);
        }
    }

    private void lookForEdges() {
        for (String where : document.keySet()) {
            if (where.startsWith("Promise ")) {
                look(where, document.get(where).split("(?<=\\.) "), PROMISED);
            } else if (where.startsWith("Term ")) {
                look(where, document.get(where).split("(?<=[^ .][.;]) "), TERM);
            }
        }
    }

    private void look(String where, String[] sentences, Pattern edge) {
        for (String sentence : sentences) {
            if (edge.matcher(sentence).find()) {
                boolean has = false;
                for (String words : tested.getOrDefault(where, List.of())) {
                    has |= words.contains(sentence) || sentence.contains(words);
                }
                Kit.due(where + " has a test of \"" + sentence + "\"", has, true);
            }
        }
    }
}

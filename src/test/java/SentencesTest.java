import java.io.IOException;
import java.nio.file.DirectoryStream;
import java.nio.file.Files;
import java.nio.file.Path;
import java.util.ArrayList;
import java.util.Arrays;
import java.util.List;
import java.util.Map;
import java.util.TreeMap;
import java.util.regex.Matcher;
import java.util.regex.Pattern;

/**
 * Looks whether the sentences that the tests name stand in the document, under the promise or term that is named, and
 * whether each word of each promise and of each term stands in a sentence that has a test.
 */
public final class SentencesTest {
    private static final Path DOCUMENT = Path.of("../shared/DOC.md");
    private static final Pattern NAMED =
            Pattern.compile("Kit\\.sentence\\(\"([^\"]+)\",\\s*((?:\"(?:[^\"\\\\]|\\\\.)*\"\\s*\\+?\\s*)+)\\)");
    private static final Pattern TEXT = Pattern.compile("\"((?:[^\"\\\\]|\\\\.)*)\"");
    private static final Pattern WORD = Pattern.compile("[A-Za-z0-9]");

    private final Map<String, String> document = new TreeMap<>();
    private final Map<String, List<String>> tested = new TreeMap<>();

    private SentencesTest() {
    }

    public static void main(String[] args) throws IOException {
        if (!Files.exists(DOCUMENT)) {
            System.out.println("there is no document beside the project: its sentences are not compared");
            return;
        }
        SentencesTest test = new SentencesTest();
        test.readDocument(Files.readString(DOCUMENT));
        test.readTests();
        test.compare();
        test.lookForWords();
        Kit.close();
    }

    private static String plain(String text) {
        return text.replace("`", "").replaceAll("\\s+", " ").trim();
    }

    /** Parts by their headings; of the terms each number is a part. */
    private void readDocument(String text) {
        String[] parts = text.replace("```text", "").split("\n## ");
        for (int i = 1; i < parts.length; i++) {
            String name = parts[i].split("[:\n]")[0];
            String body = parts[i].substring(parts[i].indexOf('\n'));
            document.put(name, plain(body).replaceFirst("^((int|boolean) \\w+|ForgetBread)\\([^)]*\\): ", ""));
            if (name.equals("Terms")) {
                String[] terms = body.split("\n(?=[1-9]\\. )");
                for (int term = 1; term < terms.length; term++) {
                    document.put("Term " + term, plain(terms[term].substring(2)));
                }
            }
        }
    }

    private void readTests() throws IOException {
        try (DirectoryStream<Path> files = Files.newDirectoryStream(Path.of("src/test/java"), "*Test.java")) {
            for (Path file : files) {
                Matcher named = NAMED.matcher(Files.readString(file));
                while (named.find()) {
                    StringBuilder words = new StringBuilder();
                    Matcher text = TEXT.matcher(named.group(2));
                    while (text.find()) {
                        words.append(text.group(1).replace("\\\"", "\""));
                    }
                    tested.computeIfAbsent(named.group(1), where -> new ArrayList<>()).add(plain(words.toString()));
                }
            }
        }
    }

    private void compare() {
        for (String where : tested.keySet()) {
            Kit.due("the document has " + where, document.containsKey(where), true);
            for (String words : tested.get(where)) {
                boolean there = document.getOrDefault(where, "").contains(words);
                Kit.due(where + " says \"" + words + "\"", there, true);
            }
        }
        for (int promise = 1; promise <= 49; promise++) {
            Kit.due("promise " + promise + " has a test", tested.containsKey("Promise " + promise), true);
        }
    }

    private void lookForWords() {
        for (String where : document.keySet()) {
            if (where.startsWith("Promise ") || where.startsWith("Term ")) {
                for (String words : withoutTest(document.get(where), tested.getOrDefault(where, List.of()))) {
                    Kit.due(where + " has a test of \"" + words + "\"", false, true);
                }
            }
        }
    }

    /** What is left of a text, piece by piece, without the sentences that have a test. */
    private static List<String> withoutTest(String text, List<String> sentences) {
        boolean[] has = new boolean[text.length()];
        for (String words : sentences) {
            for (int at = text.indexOf(words); at >= 0; at = text.indexOf(words, at + 1)) {
                Arrays.fill(has, at, at + words.length(), true);
            }
        }
        StringBuilder left = new StringBuilder();
        for (int at = 0; at < has.length; at++) {
            left.append(has[at] ? '\n' : text.charAt(at));
        }
        List<String> pieces = new ArrayList<>(List.of(left.toString().split("\n+")));
        pieces.removeIf(piece -> !WORD.matcher(piece).find());
        return pieces;
    }
}

import java.io.IOException;
import java.nio.file.Files;
import java.nio.file.Path;
import java.util.Arrays;
import java.util.Map;
import java.util.TreeMap;
import java.util.regex.Matcher;
import java.util.regex.Pattern;

/**
 * Which words of the document have a test of their own. What has none is printed, and is no fault: the
 * document may get new words ahead of their tests.
 */
final class Sentences {
    private static final Path DOCUMENT = Path.of("../shared/DOC.md");
    private static final Pattern SECTION = Pattern.compile("(?m)^## (?:Promise (\\d+): .*|What it is|Terms)$");
    /** Signatures, headings, and what the document says of itself. */
    private static final Pattern NO_SENTENCE = Pattern.compile(
        "`(?:int )?[A-Za-z]+\\([^)]*\\)`:|(?m:^[A-Z][A-Z, ]+$)|(?m:^A museum by night.*$)|(?m:^Ahead of the calls .*$)"
        + "|Errors are reported by the constants below\\.|The constants:|what later calls answer is free\\.");
    private static final Map<Integer, String> WORDS = new TreeMap<>();
    private static final Map<Integer, boolean[]> QUOTED = new TreeMap<>();
    private static final Map<Integer, Integer> TESTS = new TreeMap<>();

    private Sentences() {
    }

    static {
        if (Files.exists(DOCUMENT)) {
            readDocument();
        }
    }

    private static void readDocument() {
        String document;
        try {
            document = Files.readString(DOCUMENT);
        } catch (IOException unreadable) {
            throw new IllegalStateException(unreadable);
        }
        Matcher section = SECTION.matcher(document);
        while (section.find()) {
            int number = section.group(1) == null ? 0 : Integer.parseInt(section.group(1));
            int end = document.indexOf("\n## ", section.end());
            String words = document.substring(section.end(), end < 0 ? document.length() : end);
            words = plain(NO_SENTENCE.matcher(words).replaceAll(" "));
            WORDS.merge(number, words, (one, other) -> one + " " + other);
        }
        WORDS.forEach((number, words) -> QUOTED.put(number, new boolean[words.length()]));
    }

    private static String plain(String words) {
        return words.replaceAll("\\s+", " ").trim();
    }

    static void quote(int promise, String words) {
        String all = WORDS.getOrDefault(promise, "");
        boolean isFound = false;
        for (int at = all.indexOf(words); at >= 0; at = all.indexOf(words, at + 1)) {
            Arrays.fill(QUOTED.get(promise), at, at + words.length(), true);
            isFound = true;
        }
        if (!isFound && !WORDS.isEmpty()) {
            System.out.println("not in the document, " + promise + ": " + words);
        }
    }

    static void countTest(int promise) {
        TESTS.merge(promise, 1, Integer::sum);
    }

    static int testsOf(int promise) {
        return TESTS.getOrDefault(promise, 0);
    }

    static void report() {
        WORDS.forEach((number, words) -> {
            boolean[] quoted = QUOTED.get(number);
            StringBuilder left = new StringBuilder();
            for (int i = 0; i < quoted.length; i++) {
                left.append(quoted[i] ? '|' : words.charAt(i));
            }
            for (String part : left.toString().split("\\|+")) {
                if (part.matches(".*[A-Za-z].*")) {
                    System.out.println("without a test of its own, " + number + ": " + part.trim());
                }
            }
        });
    }
}

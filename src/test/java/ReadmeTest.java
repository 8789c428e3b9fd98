import java.io.IOException;
import java.nio.file.Files;
import java.nio.file.Path;
import java.util.ArrayList;
import java.util.List;
import java.util.Set;
import java.util.TreeSet;
import java.util.regex.Matcher;
import java.util.regex.Pattern;

/**
 * README.md: its examples are run as one program, and each call must answer what is told behind it; its
 * lists of acts, questions and other calls must hold each method of the document, as the document says.
 */
public final class ReadmeTest {
    private static final Path README = Path.of("README.md");
    private static final Path DOCUMENT = Path.of("../shared/DOC.md");
    private static final Pattern EXAMPLE = Pattern.compile("(?ms)^```java\\n(.*?)^```$");
    private static final Pattern CALL = Pattern.compile("(?:int (\\w+) = )?museum\\.(\\w+)\\((.*)\\); +// ([-\\w]+): .+");
    private static final Pattern PROMISE = Pattern.compile("(?m)^## Promise (\\d+): (.+)$");
    private static final Pattern NAME = Pattern.compile("`(\\w+)`");
    private static final int FIRST_QUESTION = 26;

    private final String readme;
    private final String document;

    private ReadmeTest(String readme, String document) {
        this.readme = readme;
        this.document = document;
    }

    public static void main(String[] args) throws IOException {
        ReadmeTest test = new ReadmeTest(Files.readString(README), Files.readString(DOCUMENT));
        test.examples();
        test.lists();
        Check.end();
    }

    private void examples() {
        Example example = new Example();
        Matcher blocks = EXAMPLE.matcher(readme);
        int blocksFound = 0;
        while (blocks.find()) {
            blocksFound++;
            for (String line : blocks.group(1).split("\n")) {
                runLine(example, line);
            }
        }
        Check.due("README: examples", blocksFound, 3);
    }

    private static void runLine(Example example, String line) {
        if (line.equals("MuseumNights museum = new MuseumNights();")) {
            example.begin();
            return;
        }
        Matcher call = CALL.matcher(line);
        Check.holds("README: a call with its answer: " + line, call.matches());
        if (call.matches()) {
            int answer = example.call(call.group(2), call.group(3));
            example.name(call.group(1), answer);
            Check.due("README: " + line, answer, example.value(call.group(4)));
        }
    }

    private void lists() {
        Set<String> acts = new TreeSet<>();
        Set<String> questions = new TreeSet<>();
        Set<String> others = new TreeSet<>();
        Matcher promise = PROMISE.matcher(document);
        while (promise.find()) {
            int number = Integer.parseInt(promise.group(1));
            int end = document.indexOf("\n## ", promise.end());
            String words = document.substring(promise.end(), end);
            if (words.contains("This is an act.") || words.contains("This is one act.")) {
                acts.add(promise.group(2));
            } else if (number >= FIRST_QUESTION) {
                questions.add(promise.group(2));
            } else if (number > 1) {
                others.add(promise.group(2));
            }
        }
        sameNames("acts", listBehind("An act changes"), acts);
        sameNames("questions", listBehind("A question changes"), questions);
        sameNames("other calls", listBehind("The other calls"), others);
    }

    /** The names in the first list behind these words. */
    private List<String> listBehind(String words) {
        List<String> names = new ArrayList<>();
        int start = readme.indexOf("\n- ", readme.indexOf(words));
        int end = readme.indexOf("\n\n", start + 1);
        Matcher name = NAME.matcher(readme.substring(start, end));
        while (name.find()) {
            names.add(name.group(1));
        }
        return names;
    }

    private static void sameNames(String what, List<String> told, Set<String> due) {
        Check.due("README: " + what + ", each once: " + told, told.size(), due.size());
        Check.holds("README: " + what + " " + told + ", due are " + due, new TreeSet<>(told).equals(due));
    }
}

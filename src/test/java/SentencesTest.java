import java.io.IOException;
import java.lang.reflect.Method;
import java.nio.file.Files;
import java.nio.file.Path;
import java.util.ArrayList;
import java.util.List;

/** Reads the document: each of its sentences has a test that quotes it, or names no boundary case and is told here. */
public final class SentencesTest {
    private static final Path DOCUMENT = Path.of("../shared/DOC.md");
    private static final List<Class<?>> TESTS = List.of(TermsEdgesTest.class, FilterEdgesTest.class, StoreEdgesTest.class, AnswersEdgesTest.class);

    private static final int NOT_PROMISED = -1;

    /** Sentences that name no boundary case; of a parameter that is a number of something, what is behind Throws names its limits. */
    private static final List<String> WITHOUT_CASE = List.of(
        "- `\\w+`: (number of|place in) (a|the) [a-z ]+",
        "[1-3]\\.|Rules|Tables|Filters|A store for small tables by columns: .*",
        "(Sets a value|Removes a row|Empties the text|Goes back to a version|Chooses rows by the text as a filter)\\.",
        "Tells (whether a row is chosen|the reads of the text as a filter)\\.",
        "Returns (this|this value|whether it is|its number|its place|their sum|a value|a size of a table|something about a group)\\.",
        "Returns (the (number|kind|length|row|place|share|mean)|how many|a row) [a-z ,]+\\.",
        "Works out an INNER join of the chosen rows of two tables in three ways: .*"
    );

    private record Told(int promise, String sentence) {
    }

    private final List<Told> told = new ArrayList<>();
    private final List<Told> quoted = new ArrayList<>();
    private int wrong = 0;

    public static void main(String[] args) throws IOException {
        SentencesTest test = new SentencesTest();
        test.readDocument();
        test.readTests();
        test.compare();
        System.out.println(test.told.size() + " sentences, " + test.quoted.size() + " tests that quote one, " + test.wrong + " wrong");
        if (test.wrong != 0) {
            System.exit(1);
        }
    }

    private void readDocument() throws IOException {
        int promise = NOT_PROMISED;
        boolean isJava = false;
        for (String line : Files.readAllLines(DOCUMENT)) {
            if (line.startsWith("```")) {
                isJava = line.equals("```java");
            } else if (line.startsWith("## ")) {
                promise = promiseOf(line, promise);
            } else if (promise >= 0 && !isJava && !line.isBlank()) {
                addSentences(promise, line.strip());
            }
        }
    }

    private static int promiseOf(String heading, int before) {
        if (heading.startsWith("## Promise ")) {
            return Integer.parseInt(heading.substring(11, heading.indexOf(':')));
        }
        return heading.equals("## Not promised") ? NOT_PROMISED : Math.max(before, 0);
    }

    private void addSentences(int promise, String line) {
        String text = line.replaceFirst("^`[^`]*\\([^`]*`: ", "");
        for (String sentence : text.split("(?<=\\.|\\.\\)) +(?=[^a-z])")) {
            told.add(new Told(promise, sentence));
        }
    }

    private void readTests() {
        for (Class<?> tests : TESTS) {
            for (Method method : tests.getDeclaredMethods()) {
                Sentence sentence = method.getAnnotation(Sentence.class);
                if (sentence != null) {
                    quoted.add(new Told(sentence.promise(), sentence.says()));
                }
            }
        }
    }

    private void compare() {
        for (Told quote : quoted) {
            if (told.stream().noneMatch(sentence -> quotes(quote, sentence))) {
                tell("not in the document", quote);
            }
        }
        for (Told sentence : told) {
            boolean hasCase = WITHOUT_CASE.stream().noneMatch(sentence.sentence::matches);
            if (hasCase && quoted.stream().noneMatch(quote -> quotes(quote, sentence))) {
                tell("without a test", sentence);
            }
        }
    }

    private static boolean quotes(Told quote, Told sentence) {
        return quote.promise == sentence.promise && sentence.sentence.contains(quote.sentence);
    }

    private void tell(String fault, Told what) {
        wrong++;
        System.out.println(fault + ", promise " + what.promise + ": " + what.sentence);
    }
}

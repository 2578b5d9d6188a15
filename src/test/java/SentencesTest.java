import java.io.IOException;
import java.lang.reflect.Method;
import java.nio.charset.StandardCharsets;
import java.nio.file.Files;
import java.nio.file.Path;
import java.util.ArrayList;
import java.util.List;

/**
 * Each sentence that a test is for stands in the document, and each range, each throws clause and each sentence of
 * the terms has a test of its own. The second argument names the directory that has the document.
 */
public final class SentencesTest {
    private static final Class<?>[] TESTS = {PartTest.class, TreeTest.class, RunTest.class, WheelTest.class,
        ExaminationTest.class, FlawTest.class, ReleaseTest.class, RoadTest.class, RefusedTest.class};
    private static final int PROMISES = 32;

    private static final Check check = new Check();

    public static void main(String[] args) throws IOException {
        if (args.length < 2) {
            throw new IllegalArgumentException("the arguments are to name the project's directory and the shared one");
        }
        String document = plain(Files.readString(Path.of(args[1], "DOC.md"), StandardCharsets.UTF_8));
        List<Says> said = said();
        for (Says one : said) {
            check.due("stands in the document: " + one, section(document, one.promise()).contains(one.value()), true);
        }
        for (int promise = 1; promise <= PROMISES; promise++) {
            for (String line : section(document, promise).split(" \\| ")) {
                line(said, promise, line);
            }
        }
        for (String sentence : terms(document)) {
            check.due("a test is for: " + sentence, isTested(said, Says.TERMS, sentence), true);
        }
        check.end();
    }

    private static List<Says> said() {
        List<Says> said = new ArrayList<>();
        for (Class<?> tests : TESTS) {
            for (Method method : tests.getDeclaredMethods()) {
                if (method.isAnnotationPresent(Says.class)) {
                    said.add(method.getAnnotation(Says.class));
                }
            }
        }
        return said;
    }

    /** Without back quotes, and with a bar in place of each end of a line. */
    private static String plain(String text) {
        return text.replace("`", "").replaceAll("\\s*\\n\\s*", " | ");
    }

    private static String section(String document, int promise) {
        String head = promise == Says.TERMS ? "## Terms" : "## Promise " + promise + ":";
        String next = promise == PROMISES ? "## Not promised" : "## Promise " + (promise + 1) + ":";
        int from = document.indexOf(head);
        int to = document.indexOf(next, Math.max(from, 0));
        return from < 0 || to < 0 ? "" : document.substring(from, to);
    }

    private static void line(List<Says> said, int promise, String line) {
        if (line.startsWith("- ")) {
            clause(said, promise, line.substring(2));
        } else if (line.startsWith("Returns ")) {
            for (String part : line.split("; ")) {
                clause(said, promise, part);
            }
        } else if (line.startsWith("Throws ")) {
            for (String part : line.substring(line.indexOf(" if ") + 4).split(", or |, | or ")) {
                clause(said, promise, part);
            }
        }
    }

    private static void clause(List<Says> said, int promise, String clause) {
        check.due("a test is for promise " + promise + ": " + clause, isTested(said, promise, clause), true);
    }

    private static boolean isTested(List<Says> said, int promise, String text) {
        for (Says one : said) {
            if (one.promise() == promise && (one.value().contains(text) || text.contains(one.value()))) {
                return true;
            }
        }
        return false;
    }

    /** The sentences of the terms, without headings, and without those that explain constants and the interface. */
    private static List<String> terms(String document) {
        List<String> sentences = new ArrayList<>();
        for (String line : section(document, Says.TERMS).split(" \\| ")) {
            boolean tells = !line.startsWith("#") && !line.startsWith("Ahead of") && !line.startsWith("The constants");
            if (tells && line.indexOf(" = ") < 0 && !line.startsWith("SCRAPPED")) {
                for (String sentence : line.split("(?<=\\.) ")) {
                    if (!sentence.isBlank()) {
                        sentences.add(sentence);
                    }
                }
            }
        }
        return sentences;
    }
}

import java.io.ByteArrayOutputStream;
import java.io.IOException;
import java.io.PrintStream;
import java.lang.reflect.Method;
import java.lang.reflect.Modifier;
import java.nio.charset.StandardCharsets;
import java.nio.file.DirectoryStream;
import java.nio.file.Files;
import java.nio.file.Path;
import java.util.TreeSet;
import java.util.regex.Matcher;
import java.util.regex.Pattern;

/**
 * What README.md says is so: its example is that of Example.java and prints what it says, its calls are those of the
 * class, and its tests are all that there are. The first argument names the directory of the project.
 */
public final class ReadmeTest {
    private static final Check check = new Check();

    public static void main(String[] args) throws IOException {
        if (args.length == 0) {
            throw new IllegalArgumentException("the first argument is to name the directory of the project");
        }
        Path project = Path.of(args[0]);
        String readme = Files.readString(project.resolve("README.md"), StandardCharsets.UTF_8);
        String example = Files.readString(project.resolve("src/test/java/Example.java"), StandardCharsets.UTF_8);
        check.due("the example", block(readme, "java"), example);
        check.due("what the example prints", block(readme, "text"), printedByExample());
        check.due("the calls", firsts(readme, "(\\w+\\(.*?\\))").toString(), calls().toString());
        check.due("the tests", firsts(readme, "(\\w+Test)").toString(), tests(project).toString());
        named(project, readme);
        check.end();
    }

    /** What stands between the fences of the first block of a language. */
    private static String block(String readme, String language) {
        String fence = "```" + language + "\n";
        int from = readme.indexOf(fence);
        int to = readme.indexOf("```", from + fence.length());
        return from < 0 || to < 0 ? "" : readme.substring(from + fence.length(), to);
    }

    private static String printedByExample() throws IOException {
        ByteArrayOutputStream printed = new ByteArrayOutputStream();
        PrintStream before = System.out;
        try (PrintStream kept = new PrintStream(printed, true, StandardCharsets.UTF_8)) {
            System.setOut(kept);
            Example.main(new String[0]);
        } finally {
            System.setOut(before);
        }
        return printed.toString(StandardCharsets.UTF_8).replace(System.lineSeparator(), "\n");
    }

    /** What stands in back quotes in the first column of the tables, if it is of that form; a call by name and many. */
    private static TreeSet<String> firsts(String readme, String form) {
        TreeSet<String> found = new TreeSet<>();
        Matcher row = Pattern.compile("(?m)^\\| `" + form + "` \\|").matcher(readme);
        while (row.find()) {
            String name = row.group(1);
            int open = name.indexOf('(');
            found.add(open < 0 ? name : name.substring(0, open) + " " + many(name.substring(open)));
        }
        return found;
    }

    private static int many(String parameters) {
        return parameters.equals("()") ? 0 : parameters.split(",").length;
    }

    private static TreeSet<String> calls() {
        TreeSet<String> calls = new TreeSet<>();
        for (Method method : WheelWorks.class.getDeclaredMethods()) {
            if (Modifier.isPublic(method.getModifiers())) {
                calls.add(method.getName() + " " + method.getParameterCount());
            }
        }
        return calls;
    }

    private static TreeSet<String> tests(Path project) throws IOException {
        TreeSet<String> tests = new TreeSet<>();
        try (DirectoryStream<Path> files = Files.newDirectoryStream(project.resolve("src/test/java"), "*Test.java")) {
            for (Path file : files) {
                tests.add(file.getFileName().toString().replace(".java", ""));
            }
        }
        return tests;
    }

    /** Files of the project that are named in back quotes are there. */
    private static void named(Path project, String readme) {
        Matcher file = Pattern.compile("`((?:src|\\.\\./shared)/[\\w./]+)`").matcher(readme);
        int files = 0;
        while (file.find()) {
            check.due(file.group(1) + " is there", Files.exists(project.resolve(file.group(1))), true);
            files++;
        }
        check.due("files are named", files > 0, true);
    }
}

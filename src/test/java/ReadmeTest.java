import java.io.IOException;
import java.lang.reflect.Method;
import java.lang.reflect.Modifier;
import java.nio.file.DirectoryStream;
import java.nio.file.Files;
import java.nio.file.Path;
import java.util.ArrayList;
import java.util.List;
import java.util.regex.Matcher;
import java.util.regex.Pattern;

/** README.md against the class and the tests as they stand. */
public final class ReadmeTest {
    private static final Due DUE = new Due();
    private static final Pattern PROGRAM = Pattern.compile("(?s)```java\n(.*?)```");
    private static final Pattern PRINTED = Pattern.compile("println\\(.*\\); +// (-?\\d+)");

    public static void main(String[] args) throws IOException {
        String readme = Files.readString(Path.of("README.md"));
        itsProgramPrintsWhatItSays(readme);
        itNamesEveryCall(readme);
        itNamesEveryTest(readme);
        DUE.end();
    }

    private static void itsProgramPrintsWhatItSays(String readme) throws IOException {
        Matcher program = PROGRAM.matcher(readme);
        if (!program.find()) {
            DUE.holds("README.md has a program", false);
            return;
        }
        String text = program.group(1);
        List<String> due = new ArrayList<>();
        Matcher line = PRINTED.matcher(text);
        while (line.find()) due.add(line.group(1));
        DUE.is("each line printed has an answer", due.size(), text.split("println", -1).length - 1);
        DUE.isText("printed", printedBy(text).toString(), due.toString());
    }

    /** Java runs a single file of source as it is; the class is found where this test found it. */
    private static List<String> printedBy(String program) throws IOException {
        Path file = Files.createTempFile("Tetra", ".java");
        try {
            Files.writeString(file, program);
            String java = Path.of(System.getProperty("java.home"), "bin", "java").toString();
            Process run = new ProcessBuilder(java, "-cp", System.getProperty("java.class.path"), file.toString())
                .redirectErrorStream(true).start();
            return new String(run.getInputStream().readAllBytes()).lines().toList();
        } finally {
            Files.delete(file);
        }
    }

    private static void itNamesEveryCall(String readme) {
        for (Method method : MidSkins.class.getDeclaredMethods()) {
            if (!Modifier.isPublic(method.getModifiers())) continue;
            DUE.holds("README.md names " + method.getName(), readme.contains("`" + method.getName() + "`"));
        }
    }

    private static void itNamesEveryTest(String readme) throws IOException {
        try (DirectoryStream<Path> tests = Files.newDirectoryStream(Path.of("src/test/java"), "*.java")) {
            for (Path test : tests) {
                String name = test.getFileName().toString().replace(".java", "");
                DUE.holds("README.md names " + name, readme.contains("| " + name + " |"));
            }
        }
    }
}

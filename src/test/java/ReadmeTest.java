import java.io.ByteArrayOutputStream;
import java.io.PrintStream;
import java.lang.reflect.Method;
import java.lang.reflect.Modifier;
import java.nio.charset.StandardCharsets;
import java.nio.file.DirectoryStream;
import java.nio.file.Files;
import java.nio.file.Path;

/** README.md shows the example and what it prints as they are, and names every call and every test. */
public final class ReadmeTest {
    private static final Path TESTS = Path.of("src/test/java");

    public static void main(String[] args) throws Exception {
        String readme = textOf(Path.of("README.md"));
        Check.due(0, "README.md shows Example.java",
            readme.contains("```java\n" + textOf(TESTS.resolve("Example.java")) + "```\n"), true);
        String printed = printedByExample();
        Check.due(0, "README.md shows what Example.java prints:\n" + printed,
            readme.contains("```text\n" + printed + "```\n"), true);
        namesEveryCall(readme);
        namesEveryTest(readme);
        Check.finish("ReadmeTest");
    }

    private static String textOf(Path file) throws Exception {
        return Files.readString(file, StandardCharsets.UTF_8).replace("\r\n", "\n");
    }

    private static String printedByExample() {
        PrintStream before = System.out;
        ByteArrayOutputStream printed = new ByteArrayOutputStream();
        System.setOut(new PrintStream(printed, true, StandardCharsets.UTF_8));
        try {
            Example.main(new String[0]);
        } finally {
            System.setOut(before);
        }
        return printed.toString(StandardCharsets.UTF_8).replace("\r\n", "\n");
    }

    private static void namesEveryCall(String readme) {
        for (Method method : PendulumGym.class.getDeclaredMethods()) {
            if (Modifier.isPublic(method.getModifiers())) {
                Check.due(0, "README.md names " + method.getName(), readme.contains("`" + method.getName() + "`"), true);
            }
        }
    }

    private static void namesEveryTest(String readme) throws Exception {
        try (DirectoryStream<Path> tests = Files.newDirectoryStream(TESTS, "*Test.java")) {
            for (Path test : tests) {
                String name = test.getFileName().toString().replace(".java", "");
                Check.due(0, "README.md names " + name, readme.contains("`" + name + "`"), true);
            }
        }
    }
}

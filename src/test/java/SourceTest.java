import java.nio.charset.StandardCharsets;
import java.nio.file.Files;
import java.nio.file.Path;
import java.util.regex.Matcher;
import java.util.regex.Pattern;

/** Rules of ../shared/LANGUAGE.md that the program's text shows by itself; it is run from the project's folder. */
public final class SourceTest {
    private static final int MOST_LINES = 60;
    private static final String[] BANNED = {"->", "::", "\\bfinally\\b", "\\btry\\b", "\\bcatch\\s*\\(", "\\bsynchronized\\b",
        "\\bassert\\b", "\\bvar\\b", "\\bprotected\\b", "\\bSystem\\.(?!arraycopy)", "Exact\\(", "MAX_VALUE", "MIN_VALUE",
        "\"\\s*\\+", "\\+\\s*\"", "\\bstatic\\s*\\{", "\\bObject\\b", "\\bequals\\(", "\\bhashCode\\(", "^package", "printStackTrace"};

    public static void main(String[] args) throws Exception {
        String text = Files.readString(Path.of("src/main/java/PendulumGym.java"), StandardCharsets.UTF_8);
        String code = text.replaceAll("(?s)/\\*.*?\\*/", "").replaceAll("//[^\n]*", "");
        for (String banned : BANNED) {
            Matcher found = Pattern.compile(banned, Pattern.MULTILINE).matcher(code);
            Check.due(0, "the text of " + banned, found.find() ? found.group() : "none", "none");
        }
        Check.due(0, "characters from 1 to 127 alone", text.chars().allMatch(sign -> sign > 0 && sign < 128), true);
        Check.due(0, "the imports", imports(code), "java.util.NoSuchElementException;");
        methodLengths(code);
        Check.finish("SourceTest");
    }

    private static String imports(String code) {
        StringBuilder imports = new StringBuilder();
        Matcher matcher = Pattern.compile("^import (.*)$", Pattern.MULTILINE).matcher(code);
        while (matcher.find()) {
            imports.append(matcher.group(1));
        }
        return imports.toString();
    }

    private static void methodLengths(String code) {
        Matcher method = Pattern.compile("^( {4}| {8})[a-zA-Z].*\\)[^;]* \\{\n(?s:.*?)^\\1\\}$", Pattern.MULTILINE)
            .matcher(code);
        int methods = 0;
        while (method.find()) {
            methods++;
            String lines = method.group();
            boolean isShort = lines.lines().count() <= MOST_LINES;
            Check.due(0, lines.lines().findFirst().orElse("") + " is short", isShort, true);
        }
        Check.due(0, "the methods are found", methods > 100, true);
    }
}

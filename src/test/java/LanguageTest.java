import java.io.IOException;
import java.nio.file.Files;
import java.nio.file.Path;
import java.util.List;
import java.util.regex.Matcher;
import java.util.regex.Pattern;

/** What LANGUAGE.md forbids and a look at the source can find; it is run from the project's folder. */
public final class LanguageTest {
    private static final Check CHECK = new Check("LanguageTest");
    private static final Path SOURCE = Path.of("src/main/java/PoisonedMemory.java");
    private static final int LONGEST_METHOD = 60;

    public static void main(String[] args) throws IOException {
        String source = Files.readString(SOURCE);
        String code = withoutComments(source);
        forbid(code, "rule 4, imports", "import (?!java\\.util\\.(Arrays|ArrayList|List|Iterator|NoSuchElementException);)");
        forbid(code, "rule 6, no call of the document throws", "\\b(throw|throws|try|catch|finally)\\b");
        forbid(code, "rule 6", "\\b(synchronized|assert|equals|hashCode|toString)\\b");
        forbid(code, "rule 2, no lambda, no method reference", "->|::");
        forbid(code, "rule 4, nothing of these", "\\b(System\\.(?!arraycopy)|Thread|Random|Object|String\\.|Exact\\w*\\()");
        forbid(code, "rule 5, no static block", "static\\s*\\{");
        forbid(code, "rule 1, no package", "(?m)^package\\b");
        forbid(code, "rule 9, no loop without an end", "while\\s*\\(true\\)|for\\s*\\(;;\\)");
        forbid(code, "rule 10, no joining by +", "\"\\s*\\+|\\+\\s*\"");
        forbid(source, "rule 4, signs from 1 to 127", "[^\\x01-\\x7f]");
        checkMethodLengths(source);
        CHECK.finish();
    }

    private static String withoutComments(String source) {
        return source.replaceAll("(?s)/\\*.*?\\*/", "").replaceAll("//[^\n]*", "");
    }

    private static void forbid(String code, String rule, String pattern) {
        Matcher matcher = Pattern.compile(pattern).matcher(code);
        CHECK.due(rule, 0, 0);
        while (matcher.find()) {
            CHECK.fail(rule + ": found " + matcher.group());
        }
    }

    /** A method begins with a line that ends with ") {" outside any other one, and ends at the brace below it. */
    private static void checkMethodLengths(String source) {
        List<String> lines = source.lines().toList();
        for (String indent : List.of("    ", "        ")) {
            int start = -1;
            for (int i = 0; i < lines.size(); i++) {
                String line = lines.get(i);
                if (line.matches(indent + "\\w.*\\) \\{")) {
                    start = i;
                } else if (line.equals(indent + "}") && start >= 0) {
                    CHECK.due("rule 11, a long method: " + lines.get(start), i - start < LONGEST_METHOD ? 1 : 0, 1);
                    start = -1;
                }
            }
        }
    }
}

import java.io.IOException;
import java.nio.file.Files;
import java.nio.file.Path;
import java.util.Arrays;
import java.util.HashSet;
import java.util.Set;
import java.util.regex.Matcher;
import java.util.regex.Pattern;

/** What the words of the source show of LANGUAGE.md; comments and texts are left out of it. */
public final class LanguageTest {
    private static final Path SOURCE = Path.of("src", "main", "java", "CellAlgebra.java");
    private static final Set<String> CALLS = new HashSet<>(Arrays.asList("System.arraycopy",
            "Arrays.copyOf", "Arrays.copyOfRange", "Arrays.fill", "Math.min", "Math.max"));
    private static final Pattern METHOD = Pattern.compile(
            "^( {4}| {8})(?!(if|for|while|switch) )\\w[\\w\\[\\] ]*\\([^;]*\\{$");
    private static final int LONGEST_METHOD = 60;
    private static final int MOST_CLASSES = 12;

    private static String code = "";

    public static void main(String[] args) throws IOException {
        String source = Files.readString(SOURCE);
        code = source.replaceAll("(?s)/\\*.*?\\*/", " ").replaceAll("//[^\n]*", " ")
                .replaceAll("\"(\\\\.|[^\"\\\\])*\"", "\"\"")
                .replaceAll("'(\\\\.|[^'\\\\])'", "' '");
        onePublicClass();
        noWordOf("2", "->", "::", "\\bnew\\s+\\w+\\([^)]*\\)\\s*\\{");
        noWordOf("3", "\\bObject\\b", "\\bvar\\b", "\\[\\]\\s*\\[\\]");
        library();
        staticFields();
        noWordOf("6", "\\b(throw|throws|try|catch|finally|synchronized|assert)\\b",
                "\\b(equals|hashCode|toString)\\s*\\(");
        noWordOf("9", "\\bwhile\\s*\\(\\s*true\\b", "\\bfor\\s*\\([^;]*;\\s*;");
        noWordOf("10", "\"\"\\s*\\+", "\\+\\s*\"\"", "\\+=\\s*\"\"");
        methodLengths();
        Check.finish();
    }

    private static int count(String pattern) {
        Matcher matcher = Pattern.compile(pattern).matcher(code);
        int count = 0;
        while (matcher.find()) {
            count++;
        }
        return count;
    }

    private static void noWordOf(String rule, String... patterns) {
        Check.sentence("LANGUAGE.md, rule " + rule);
        for (String pattern : patterns) {
            Check.due("how often there is " + pattern, count(pattern), 0);
        }
    }

    private static void onePublicClass() {
        Check.sentence("LANGUAGE.md, rules 1, 2 and 11");
        Check.due("package lines", count("(?m)^\\s*package\\b"), 0);
        Check.due("public classes", count("\\bpublic\\s+final\\s+class\\s+CellAlgebra\\b"), 1);
        int classes = count("\\b(class|record|enum|interface)\\s+[A-Z]");
        int nested = count("\\bprivate\\s+static\\s+final\\s+class\\s+[A-Z]");
        Check.due("classes that are nested, private and static", nested, classes - 1);
        Check.due("at most twelve classes", classes <= MOST_CLASSES, true);
    }

    private static void library() {
        Check.sentence("LANGUAGE.md, rule 4");
        Check.due("imports", count("\\bimport\\b"), count("\\bimport java\\.util\\.Arrays;"));
        Set<String> own = new HashSet<>(Arrays.asList("CellAlgebra", "String"));
        Matcher classes = Pattern.compile("\\bclass\\s+([A-Z]\\w*)").matcher(code);
        while (classes.find()) {
            own.add(classes.group(1));
        }
        // Constants are all capitals, so a name with a small letter in it is a class.
        Matcher names = Pattern.compile("\\b([A-Z]\\w*[a-z]\\w*)(\\.\\w+)?").matcher(code);
        while (names.find()) {
            boolean known = own.contains(names.group(1)) || CALLS.contains(names.group());
            Check.due(names.group() + " is listed", known || names.group().equals("Arrays"), true);
        }
    }

    private static void staticFields() {
        Check.sentence("LANGUAGE.md, rule 5");
        Matcher fields = Pattern.compile("\\bstatic\\b[^(){};=]*[=;]").matcher(code);
        while (fields.find()) {
            boolean constant = fields.group().matches(
                    "(?s)static final (int|long|boolean|char|String) [A-Z_]+ =");
            Check.due(fields.group() + " is a constant", constant, true);
        }
        Check.due("static blocks", count("\\bstatic\\s*\\{"), 0);
    }

    private static void methodLengths() {
        Check.sentence("LANGUAGE.md, rule 11");
        String[] lines = code.split("\n", -1);
        int methods = 0;
        for (int from = 0; from < lines.length; from++) {
            Matcher head = METHOD.matcher(lines[from]);
            if (!head.find()) {
                continue;
            }
            int to = from;
            while (to < lines.length && !lines[to].equals(head.group(1) + "}")) {
                to++;
            }
            boolean isShort = to < lines.length && to - from + 1 <= LONGEST_METHOD;
            Check.due("'" + lines[from].trim() + "' is short", isShort, true);
            methods++;
        }
        Check.due(methods + " methods are found", methods > 11, true);
    }
}

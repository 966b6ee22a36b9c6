import java.io.IOException;
import java.lang.reflect.Method;
import java.nio.file.Files;
import java.nio.file.Path;
import java.util.ArrayList;
import java.util.HashSet;
import java.util.List;
import java.util.Set;
import java.util.regex.Matcher;
import java.util.regex.Pattern;

/** Makes every call that README.md shows, in its order, and looks for the answer that it says. */
public final class ReadmeTest {
    private static final Path README = Path.of("README.md");
    private static final Path HELPER = Path.of("src", "test", "java", "Check.java");
    private static final String MAKING = "CellAlgebra x = new CellAlgebra();";
    private static final Pattern CALL = Pattern.compile(
            "x\\.([a-z]+)\\(([-0-9a-fx, ]*)\\); +// (true|false|-?[0-9]+)(: .+)?");

    private final Set<String> shown = new HashSet<>();
    private CellAlgebra x = null;
    private int calls = 0;

    public static void main(String[] args) throws IOException, ReflectiveOperationException {
        ReadmeTest test = new ReadmeTest();
        int helpers = 0;
        for (List<String> block : blocks(Files.readAllLines(README))) {
            if (block.get(0).startsWith("static ")) {
                test.dueInHelper(block);
                helpers++;
            } else {
                test.run(block);
            }
        }
        Check.sentence("README.md");
        Check.due("methods for feeding", helpers, 1);
        test.dueWhole();
        Check.finish();
    }

    /** The lines of each piece of Java. */
    private static List<List<String>> blocks(List<String> lines) {
        List<List<String>> blocks = new ArrayList<>();
        List<String> open = null;
        for (String line : lines) {
            if (line.equals("```java")) {
                open = new ArrayList<>();
            } else if (line.equals("```") && open != null) {
                blocks.add(open);
                open = null;
            } else if (open != null) {
                open.add(line);
            }
        }
        return blocks;
    }

    private void run(List<String> block) throws ReflectiveOperationException {
        for (String line : block) {
            Check.sentence("README.md: " + line);
            Matcher call = CALL.matcher(line);
            if (line.equals(MAKING)) {
                x = new CellAlgebra();
            } else if (call.matches()) {
                make(call.group(1), call.group(2), call.group(3));
            } else {
                Check.due("a line that is a call with its answer", false, true);
            }
        }
    }

    private void make(String name, String arguments, String answer)
            throws ReflectiveOperationException {
        String[] words = arguments.isEmpty() ? new String[0] : arguments.split(", ");
        Class<?>[] types = new Class<?>[words.length];
        Object[] values = new Object[words.length];
        for (int k = 0; k < words.length; k++) {
            types[k] = int.class;
            values[k] = Long.decode(words[k]).intValue();
        }
        Method method = CellAlgebra.class.getMethod(name, types);
        String got = String.valueOf(method.invoke(x, values));
        Check.due(name + " answered " + got + ", so this answer is due", got.equals(answer), true);
        shown.add(name);
        calls++;
    }

    /** The method stands just so in the tests' own helper, but for how far its lines are moved in. */
    private void dueInHelper(List<String> block) throws IOException {
        Check.sentence("README.md: " + block.get(0));
        StringBuilder moved = new StringBuilder();
        for (String line : block) {
            moved.append("    ").append(line).append('\n');
        }
        boolean same = Files.readString(HELPER).contains(moved);
        Check.due("the method is the one in " + HELPER, same, true);
    }

    private void dueWhole() {
        Check.due("an object's calls are at most 512", calls <= 512, true);
        for (Method m : CellAlgebra.class.getDeclaredMethods()) {
            if (java.lang.reflect.Modifier.isPublic(m.getModifiers())) {
                Check.due(m.getName() + " is shown", shown.contains(m.getName()), true);
            }
        }
    }
}

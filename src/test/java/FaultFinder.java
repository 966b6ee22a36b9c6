import java.util.ArrayDeque;
import java.util.Deque;
import java.util.Map;

/**
 * Finds the first fault of a text in another way than the class does it: without recursion, by
 * what is open at each byte.
 */
final class FaultFinder {
    private static final Map<String, String> KINDS = Map.of("min", "ee", "max", "ee", "or", "ee",
            "abs", "e", "blank", "e", "sum", "ek", "top", "ek", "low", "ek", "at", "edd");

    /** What is open: the whole text, a bracket, a name's bracket, or one side of a choice. */
    private static final class Open {
        final char kind;
        final int depth;
        final String arguments;
        int argument = 0;
        boolean compared = false;

        Open(char kind, int depth, String arguments) {
            this.kind = kind;
            this.depth = depth;
            this.arguments = arguments;
        }
    }

    private final String text;
    private final int[][] sizes;
    private final Deque<Open> open = new ArrayDeque<>();
    private int at = 0;
    private int minuses = 0;
    private boolean operandIsDue = true;
    private int first = -1;

    private FaultFinder(String text, int[][] sizes) {
        this.text = text;
        this.sizes = sizes;
    }

    /** The place of the first fault, or -1; sizes has w and h of each raster. */
    static int find(String text, int[]... sizes) {
        return new FaultFinder(text, sizes).find();
    }

    private int find() {
        open.push(new Open('T', 1, ""));
        while (at < text.length()) {
            char c = text.charAt(at);
            if (c == ' ' || c == '\n') {
                at++;
                continue;
            }
            int fault = operandIsDue ? operand(c) : operator(c);
            if (fault >= 0) {
                return fault;
            }
        }
        closeChoices();
        boolean whole = !operandIsDue && open.peek().kind == 'T';
        return whole && first >= 0 ? -1 : text.length();
    }

    private int operand(char c) {
        int depth = open.peek().depth + minuses;
        if (c == '-' || c == '(') {
            if (depth == 40) {
                return at;
            }
            at++;
            if (c == '-') {
                minuses++;
            } else {
                begin(new Open('(', depth + 1, "e"));
            }
            return -1;
        }
        if (c >= '0' && c <= '9') {
            operandIsDue = false;
            return number(at, 999999999);
        }
        return c >= 'a' && c <= 'z' ? word(depth) : at;
    }

    private int word(int depth) {
        int start = at;
        while (at < text.length() && text.substring(at, at + 1).matches("[a-z]")) {
            at++;
        }
        String word = text.substring(start, at);
        if (word.length() == 1) {
            int r = word.charAt(0) - 'a';
            if (r >= 10 || r >= sizes.length) {
                return start;
            }
            first = first < 0 ? r : first;
            operandIsDue = false;
            boolean same = sizes[first][0] == sizes[r][0] && sizes[first][1] == sizes[r][1];
            return same ? -1 : start;
        }
        skip();
        if (!KINDS.containsKey(word) || at == text.length() || text.charAt(at) != '(') {
            return start;
        }
        if (depth == 40) {
            return at;
        }
        at++;
        begin(new Open('(', depth + 1, KINDS.get(word)));
        return -1;
    }

    private int operator(char c) {
        Open o = open.peek();
        boolean behindNumber = o.kind == '(' && o.arguments.charAt(o.argument) != 'e';
        if (behindNumber && c != ',' && c != ')') {
            return at;
        }
        if ("+-*/%".indexOf(c) >= 0) {
            at++;
            beginOperand();
            return -1;
        }
        if ("<>=#".indexOf(c) >= 0) {
            return comparison(c);
        }
        if (c == '?') {
            int depth = open.peek().depth;
            if (depth == 40) {
                return at;
            }
            at++;
            begin(new Open('?', depth + 1, ""));
            return -1;
        }
        closeChoices();
        Open innermost = open.peek();
        if (c == ':' && innermost.kind == '?') {
            at++;
            open.pop();
            begin(new Open(':', innermost.depth, ""));
            return -1;
        }
        if (c == ')' && innermost.kind == '('
                && innermost.argument == innermost.arguments.length() - 1) {
            at++;
            open.pop();
            return -1;
        }
        boolean more = innermost.argument < innermost.arguments.length() - 1;
        return c == ',' && innermost.kind == '(' && more ? nextArgument(innermost) : at;
    }

    private int comparison(char c) {
        if (open.peek().compared) {
            return at;
        }
        at++;
        skip();
        if ((c == '<' || c == '>') && at < text.length() && text.charAt(at) == '=') {
            at++;
        }
        open.peek().compared = true;
        beginOperand();
        return -1;
    }

    private int nextArgument(Open innermost) {
        at++;
        innermost.argument++;
        innermost.compared = false;
        char kind = innermost.arguments.charAt(innermost.argument);
        if (kind == 'e') {
            beginOperand();
            return -1;
        }
        skip();
        int start = at;
        if (kind == 'd' && at < text.length() && text.charAt(at) == '-') {
            at++;
        }
        return number(start, kind == 'd' ? 50 : 3);
    }

    private int number(int start, int most) {
        int from = at;
        while (at < text.length() && Character.digit(text.charAt(at), 10) >= 0) {
            at++;
        }
        if (at == from) {
            return at;
        }
        String nine = text.substring(from, Math.min(at, from + 9));
        if (Integer.parseInt(nine) > most) {
            return start;
        }
        return at - from > 9 ? from + 9 : -1;
    }

    private void begin(Open what) {
        open.push(what);
        beginOperand();
    }

    private void beginOperand() {
        operandIsDue = true;
        minuses = 0;
    }

    private void closeChoices() {
        while (!operandIsDue && open.peek().kind == ':') {
            open.pop();
        }
    }

    private void skip() {
        while (at < text.length() && (text.charAt(at) == ' ' || text.charAt(at) == '\n')) {
            at++;
        }
    }
}

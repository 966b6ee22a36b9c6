import java.util.Arrays;

/**
 * Rasters of whole numbers with blanks, and an algebra of texts that works out a new one from
 * those there are; and least sums of steps over costs.
 */
public final class CellAlgebra {
    private static final int MOST_RASTERS = 40;
    private static final int MOST_SIDE = 50;
    private static final int MOST_CELLS = MOST_SIDE * MOST_SIDE;
    private static final int TRAY_ROOM = 16000;
    private static final int MOST_FED = 65536;
    private static final int BYTES_A_FEED = 20;

    private static final int FAULTY = -1;
    private static final int OTHER_SIZE = -1;
    private static final int NO_ROOM = -12;
    private static final int NOT_THERE = -14;
    private static final int NO_FAULT = -1;

    // No int is as great, so a blank needs no mark beside the value; and no sum of steps is
    // either, so that a blank cell is one that any way to it makes better.
    private static final long BLANK = 3000000000L;
    private static final long NO_CELL = 4000000000L;

    private static final int NAMED_RASTERS = 10;
    private static final int DEEPEST = 40;
    // At each depth at most four values wait for what is read deeper: the left side of a
    // comparison, a sum, a product and the first of two arguments.
    private static final int MOST_PLANES = 4 * DEEPEST;
    private static final int MOST_DIGITS = 9;
    private static final int GREATEST_NUMBER = 999999999;
    private static final int FARTHEST_REACH = 3;
    private static final int FARTHEST_SHIFT = 50;
    private static final int SHIFTS = 2 * FARTHEST_SHIFT + 1;
    private static final int END_OF_TEXT = -1;

    private static final int STRAIGHT = 5;
    private static final int ACROSS = 7;
    private static final int GREATEST_COST = 1000;

    private static final int NONE = 0;
    private static final int NUMBER = 1;
    private static final int RASTER = 2;
    private static final int NEGATE = 3;
    private static final int ABS = 4;
    private static final int IS_BLANK = 5;
    private static final int ADD = 6;
    private static final int SUBTRACT = 7;
    private static final int MULTIPLY = 8;
    private static final int DIVIDE = 9;
    private static final int REMAINDER = 10;
    private static final int LESS = 11;
    private static final int LESS_OR_EQUAL = 12;
    private static final int MORE = 13;
    private static final int MORE_OR_EQUAL = 14;
    private static final int EQUAL = 15;
    private static final int UNEQUAL = 16;
    private static final int MIN = 17;
    private static final int MAX = 18;
    private static final int OR = 19;
    private static final int CHOOSE = 20;
    private static final int SUM = 21;
    private static final int TOP = 22;
    private static final int LOW = 23;
    private static final int AT = 24;

    private final Shelf shelf = new Shelf();
    private final Program program = new Program();
    private final Machine machine = new Machine();
    private final Spreader spreader = new Spreader();
    private byte[] tray = new byte[0];
    private int inTray;
    private int fed;
    private int faultPlace = NO_FAULT;

    public CellAlgebra() {
    }

    public int feed(int a, int b, int c, int d, int e) {
        if (inTray + BYTES_A_FEED > TRAY_ROOM || fed + BYTES_A_FEED > MOST_FED) {
            return -1;
        }
        widenTray(inTray + BYTES_A_FEED);
        lay(a);
        lay(b);
        lay(c);
        lay(d);
        lay(e);
        fed += BYTES_A_FEED;
        return inTray;
    }

    public boolean end(int n) {
        if (n < 0 || n > inTray) {
            return false;
        }
        inTray = n;
        return true;
    }

    public int raster(int w, int h) {
        if (w < 1 || w > MOST_SIDE || h < 1 || h > MOST_SIDE) {
            return NOT_THERE;
        }
        if (shelf.isFull()) {
            return NO_ROOM;
        }
        return shelf.keep(new Raster(w, h));
    }

    public boolean put(int r, int i, int j, int v) {
        return write(r, i, j, v);
    }

    public boolean wipe(int r, int i, int j) {
        return write(r, i, j, BLANK);
    }

    public long cell(int r, int i, int j) {
        Raster raster = shelf.find(r);
        if (raster == null || !raster.reaches(i, j)) {
            return NO_CELL;
        }
        return raster.cells[raster.indexOf(i, j)];
    }

    public int size(int r, int what) {
        Raster raster = shelf.find(r);
        if (raster == null) {
            return NOT_THERE;
        }
        switch (what) {
            case 0:
                return raster.wide;
            case 1:
                return raster.high;
            case 2:
                return raster.filled();
            default:
                return NOT_THERE;
        }
    }

    public int rasters() {
        return shelf.count;
    }

    public int algebra() {
        int length = inTray;
        inTray = 0;
        program.clear(length);
        Reader reader = new Reader(tray, length, shelf, program);
        faultPlace = reader.firstFault();
        Raster pattern = reader.pattern;
        if (faultPlace != NO_FAULT || pattern == null) {
            return FAULTY;
        }
        if (shelf.isFull()) {
            return NO_ROOM;
        }
        Raster result = new Raster(pattern.wide, pattern.high);
        machine.run(program, shelf, result);
        return shelf.keep(result);
    }

    public int place() {
        return faultPlace;
    }

    public int spread(int c, int s) {
        Raster costs = shelf.find(c);
        Raster seeds = shelf.find(s);
        if (costs == null || seeds == null) {
            return NOT_THERE;
        }
        if (!costs.isAsLargeAs(seeds)) {
            return OTHER_SIZE;
        }
        if (shelf.isFull()) {
            return NO_ROOM;
        }
        Raster sums = new Raster(costs.wide, costs.high);
        spreader.run(costs, seeds, sums);
        return shelf.keep(sums);
    }

    private boolean write(int r, int i, int j, long value) {
        Raster raster = shelf.find(r);
        if (raster == null || !raster.reaches(i, j)) {
            return false;
        }
        raster.cells[raster.indexOf(i, j)] = value;
        return true;
    }

    // The tray grows with what is fed: most objects never need its whole room.
    private void widenTray(int needed) {
        if (needed > tray.length) {
            tray = Arrays.copyOf(tray, Math.min(TRAY_ROOM, 2 * needed));
        }
    }

    private void lay(int word) {
        for (int shift = 24; shift >= 0 && inTray < tray.length; shift -= 8) {
            tray[inTray] = (byte) (word >>> shift);
            inTray++;
        }
    }

    /** The cells of one raster, row by row from below; made for sides from 1 to 50. */
    private static final class Raster {
        final int wide;
        final int high;
        final long[] cells;

        Raster(int wide, int high) {
            this.wide = wide;
            this.high = high;
            this.cells = new long[wide > 0 && high > 0 ? wide * high : 0];
            Arrays.fill(cells, BLANK);
        }

        boolean reaches(int i, int j) {
            return i >= 0 && i < wide && j >= 0 && j < high;
        }

        int indexOf(int i, int j) {
            return j * wide + i;
        }

        boolean isAsLargeAs(Raster other) {
            return wide == other.wide && high == other.high;
        }

        int filled() {
            int count = 0;
            for (int index = 0; index < cells.length; index++) {
                if (cells[index] != BLANK) {
                    count++;
                }
            }
            return count;
        }
    }

    /** All rasters by their numbers. */
    private static final class Shelf {
        private final Raster[] rows = new Raster[MOST_RASTERS];
        private int count;

        Raster find(int number) {
            return number >= 0 && number < count ? rows[number] : null;
        }

        boolean isFull() {
            return count >= MOST_RASTERS;
        }

        int keep(Raster raster) {
            if (isFull()) {
                return NO_ROOM;
            }
            rows[count] = raster;
            count++;
            return count - 1;
        }
    }

    /** What a text asks for, each operation behind all that it works upon. */
    private static final class Program {
        private int[] operations = new int[0];
        private int[] arguments = new int[0];
        private int length;

        // Each operation has a byte of the text to itself, so the text's length is room enough.
        void clear(int room) {
            length = 0;
            if (room > operations.length) {
                operations = new int[room];
                arguments = new int[room];
            }
        }

        void add(int operation, int argument) {
            if (length < operations.length && length < arguments.length) {
                operations[length] = operation;
                arguments[length] = argument;
                length++;
            }
        }
    }

    /**
     * Reads a text from the left into a program. Each method that reads answers false as soon as
     * there is a fault; no byte is passed before it is known to fit, so the first fault that is
     * met is the first from the left.
     */
    private static final class Reader {
        private final byte[] text;
        private final int length;
        private final Shelf shelf;
        private final Program program;
        private Raster pattern;
        private int at;
        private int fault = NO_FAULT;

        Reader(byte[] text, int length, Shelf shelf, Program program) {
            this.text = text;
            this.length = length;
            this.shelf = shelf;
            this.program = program;
        }

        int firstFault() {
            if (expression(1) && peek() != END_OF_TEXT) {
                fail(at);
            }
            if (fault == NO_FAULT && pattern == null) {
                fail(length);
            }
            return fault;
        }

        private boolean expression(int depth) {
            if (!terms(depth)) {
                return false;
            }
            int comparison = comparison();
            if (comparison != NONE) {
                if (!terms(depth)) {
                    return false;
                }
                program.add(comparison, 0);
            }
            if (peek() != '?') {
                return true;
            }
            if (!goDeeper(depth) || !expression(depth + 1)) {
                return false;
            }
            if (!accept(':') || !expression(depth + 1)) {
                return false;
            }
            program.add(CHOOSE, 0);
            return true;
        }

        // The s and p of the document in one, as each method more would stand open at each depth.
        private boolean terms(int depth) {
            int adding = NONE;
            int scaling = NONE;
            for (int count = 0; count <= length; count++) {
                if (!unary(depth)) {
                    return false;
                }
                if (scaling != NONE) {
                    program.add(scaling, 0);
                }
                scaling = scalingSign(peek());
                if (scaling == NONE) {
                    if (adding != NONE) {
                        program.add(adding, 0);
                    }
                    adding = addingSign(peek());
                    if (adding == NONE) {
                        return true;
                    }
                }
                at++;
            }
            return fail(at);
        }

        private boolean unary(int depth) {
            int next = peek();
            if (next == '-') {
                if (!goDeeper(depth) || !unary(depth + 1)) {
                    return false;
                }
                program.add(NEGATE, 0);
                return true;
            }
            if (next == '(') {
                return goDeeper(depth) && expression(depth + 1) && accept(')');
            }
            if (isDigit(next)) {
                program.add(NUMBER, digits(at, GREATEST_NUMBER));
                return fault == NO_FAULT;
            }
            if (!isLetter(next)) {
                return fail(at);
            }
            int start = at;
            int letters = passLetters();
            return letters == 1 ? letter(start) : call(start, letters, depth);
        }

        private int passLetters() {
            int start = at;
            while (at < length && isLetter(byteAt(at))) {
                at++;
            }
            return at - start;
        }

        private boolean letter(int start) {
            int number = byteAt(start) - 'a';
            Raster raster = number < NAMED_RASTERS ? shelf.find(number) : null;
            if (raster == null || pattern != null && !pattern.isAsLargeAs(raster)) {
                return fail(start);
            }
            if (pattern == null) {
                pattern = raster;
            }
            program.add(RASTER, number);
            return true;
        }

        private boolean call(int start, int letters, int depth) {
            int function = functionAt(start, letters);
            if (function == NONE || peek() != '(') {
                return fail(start);
            }
            if (!goDeeper(depth) || !expression(depth + 1)) {
                return false;
            }
            int argument = 0;
            if (function == MIN || function == MAX || function == OR) {
                if (!accept(',') || !expression(depth + 1)) {
                    return false;
                }
            } else if (function == SUM || function == TOP || function == LOW) {
                argument = reach();
            } else if (function == AT) {
                argument = bothShifts();
            }
            if (fault != NO_FAULT || !accept(')')) {
                return false;
            }
            program.add(function, argument);
            return true;
        }

        private int reach() {
            if (!accept(',')) {
                return 0;
            }
            peek();
            return digits(at, FARTHEST_REACH);
        }

        // Both in one argument: each counted from the least that it may be, so none is below 0.
        private int bothShifts() {
            int right = shift();
            int up = shift();
            return (right + FARTHEST_SHIFT) * SHIFTS + up + FARTHEST_SHIFT;
        }

        private int shift() {
            if (fault != NO_FAULT || !accept(',')) {
                return 0;
            }
            boolean negative = peek() == '-';
            int start = at;
            if (negative) {
                at++;
            }
            int amount = digits(start, FARTHEST_SHIFT);
            return negative ? -amount : amount;
        }

        // The bound is looked at before a tenth digit, as the number's first byte is further left.
        private int digits(int start, int most) {
            int value = 0;
            int count = 0;
            while (count < MOST_DIGITS && isDigit(byteAt(at))) {
                value = value * 10 + byteAt(at) - '0';
                count++;
                at++;
            }
            if (count > 0 && value > most) {
                fail(start);
            } else if (count == 0 || isDigit(byteAt(at))) {
                fail(at);
            }
            return fault == NO_FAULT ? value : 0;
        }

        private int comparison() {
            int first = peek();
            if (first != '<' && first != '>' && first != '=' && first != '#') {
                return NONE;
            }
            at++;
            if (first == '=' || first == '#') {
                return first == '=' ? EQUAL : UNEQUAL;
            }
            if (peek() != '=') {
                return first == '<' ? LESS : MORE;
            }
            at++;
            return first == '<' ? LESS_OR_EQUAL : MORE_OR_EQUAL;
        }

        private boolean goDeeper(int depth) {
            if (depth >= DEEPEST) {
                return fail(at);
            }
            at++;
            return true;
        }

        private boolean accept(int sign) {
            if (peek() != sign) {
                return fail(at);
            }
            at++;
            return true;
        }

        private boolean fail(int where) {
            if (fault == NO_FAULT) {
                fault = where;
            }
            return false;
        }

        private int peek() {
            while (at < length && isSpace(byteAt(at))) {
                at++;
            }
            return byteAt(at);
        }

        private int byteAt(int index) {
            return index >= 0 && index < length && index < text.length
                    ? text[index] & 255 : END_OF_TEXT;
        }

        private int functionAt(int start, int letters) {
            switch (letters) {
                case 2:
                    return reads("or", start) ? OR : reads("at", start) ? AT : NONE;
                case 3:
                    return functionOfThree(start);
                case 5:
                    return reads("blank", start) ? IS_BLANK : NONE;
                default:
                    return NONE;
            }
        }

        private int functionOfThree(int start) {
            if (reads("min", start)) {
                return MIN;
            }
            if (reads("max", start)) {
                return MAX;
            }
            if (reads("abs", start)) {
                return ABS;
            }
            if (reads("sum", start)) {
                return SUM;
            }
            if (reads("top", start)) {
                return TOP;
            }
            return reads("low", start) ? LOW : NONE;
        }

        private boolean reads(String name, int start) {
            for (int index = 0; index < name.length(); index++) {
                if (byteAt(start + index) != name.charAt(index)) {
                    return false;
                }
            }
            return true;
        }

        private static int scalingSign(int sign) {
            switch (sign) {
                case '*':
                    return MULTIPLY;
                case '/':
                    return DIVIDE;
                case '%':
                    return REMAINDER;
                default:
                    return NONE;
            }
        }

        private static int addingSign(int sign) {
            if (sign == '+') {
                return ADD;
            }
            return sign == '-' ? SUBTRACT : NONE;
        }

        private static boolean isSpace(int sign) {
            return sign == 32 || sign == 10;
        }

        private static boolean isDigit(int sign) {
            return sign >= '0' && sign <= '9';
        }

        private static boolean isLetter(int sign) {
            return sign >= 'a' && sign <= 'z';
        }
    }

    /** The values of one part of a text, for as many cells as the largest raster has. */
    private static final class Plane {
        final long[] cells = new long[MOST_CELLS];
    }

    /** Runs a program on a stack of planes, each operation for all cells. */
    private static final class Machine {
        // Planes are made when they are first needed and kept for all later runs.
        private final Plane[] planes = new Plane[MOST_PLANES];
        private final Plane spare = new Plane();
        private int top;
        private int wide;
        private int high;
        private int area;

        void run(Program program, Shelf shelf, Raster result) {
            top = 0;
            wide = result.wide;
            high = result.high;
            area = Math.min(result.cells.length, MOST_CELLS);
            for (int step = 0; step < program.length; step++) {
                int argument = program.arguments[step];
                if (program.operations[step] == RASTER) {
                    pushRaster(shelf.find(argument));
                } else {
                    perform(program.operations[step], argument);
                }
            }
            System.arraycopy(fromTop(1), 0, result.cells, 0, area);
        }

        private void perform(int operation, int argument) {
            switch (operation) {
                case NUMBER:
                    pushNumber(argument);
                    break;
                case NEGATE:
                case ABS:
                case IS_BLANK:
                    change(operation);
                    break;
                case CHOOSE:
                    choose();
                    break;
                case SUM:
                case TOP:
                case LOW:
                    gather(operation, argument);
                    break;
                case AT:
                    move(argument / SHIFTS - FARTHEST_SHIFT, argument % SHIFTS - FARTHEST_SHIFT);
                    break;
                default:
                    join(operation);
                    break;
            }
        }

        private long[] push() {
            if (top < MOST_PLANES) {
                top++;
            }
            return fromTop(1);
        }

        private void drop(int count) {
            top = Math.max(0, top - count);
        }

        // The reader writes no program that takes more planes than it has put, or puts too many:
        // the spare one is only there so that no such program could do harm.
        private long[] fromTop(int depth) {
            int index = top - depth;
            if (index < 0 || index >= planes.length) {
                return spare.cells;
            }
            if (planes[index] == null) {
                planes[index] = new Plane();
            }
            return planes[index].cells;
        }

        private void pushNumber(int number) {
            long[] values = push();
            for (int index = 0; index < area; index++) {
                values[index] = number;
            }
        }

        private void pushRaster(Raster raster) {
            long[] values = push();
            if (raster != null) {
                System.arraycopy(raster.cells, 0, values, 0, Math.min(area, raster.cells.length));
            }
        }

        private void change(int operation) {
            long[] values = fromTop(1);
            for (int index = 0; index < area; index++) {
                values[index] = changed(operation, values[index]);
            }
        }

        private static long changed(int operation, long value) {
            if (operation == IS_BLANK) {
                return value == BLANK ? 1 : 0;
            }
            if (value == BLANK) {
                return BLANK;
            }
            int number = (int) value;
            return operation == NEGATE || number < 0 ? -number : number;
        }

        private void join(int operation) {
            long[] left = fromTop(2);
            long[] right = fromTop(1);
            for (int index = 0; index < area; index++) {
                left[index] = joined(operation, left[index], right[index]);
            }
            drop(1);
        }

        private static long joined(int operation, long left, long right) {
            if (operation == OR) {
                return left == BLANK ? right : left;
            }
            if (left == BLANK || right == BLANK) {
                return BLANK;
            }
            return worked(operation, (int) left, (int) right);
        }

        // Two ints are worked upon as ints, so that they wrap, before the answer is a long.
        private static long worked(int operation, int left, int right) {
            switch (operation) {
                case ADD:
                    return left + right;
                case SUBTRACT:
                    return left - right;
                case MULTIPLY:
                    return left * right;
                case DIVIDE:
                    return right == 0 ? BLANK : left / right;
                case REMAINDER:
                    return right == 0 ? BLANK : left % right;
                case MIN:
                    return Math.min(left, right);
                case MAX:
                    return Math.max(left, right);
                default:
                    return holds(operation, left, right) ? 1 : 0;
            }
        }

        private static boolean holds(int comparison, int left, int right) {
            switch (comparison) {
                case LESS:
                    return left < right;
                case LESS_OR_EQUAL:
                    return left <= right;
                case MORE:
                    return left > right;
                case MORE_OR_EQUAL:
                    return left >= right;
                case EQUAL:
                    return left == right;
                default:
                    return left != right;
            }
        }

        private void choose() {
            long[] conditions = fromTop(3);
            long[] chosen = fromTop(2);
            long[] others = fromTop(1);
            for (int index = 0; index < area; index++) {
                if (conditions[index] != BLANK) {
                    conditions[index] = conditions[index] != 0 ? chosen[index] : others[index];
                }
            }
            drop(2);
        }

        // A square is a row of columns: what each row gathers is gathered again up each column.
        private void gather(int operation, int reach) {
            long[] values = fromTop(1);
            for (int j = 0; j < high; j++) {
                for (int i = 0; i < wide; i++) {
                    int from = j * wide + Math.max(0, i - reach);
                    int to = j * wide + Math.min(wide - 1, i + reach);
                    spare.cells[j * wide + i] = gathered(operation, values, from, to, 1);
                }
            }
            for (int j = 0; j < high; j++) {
                for (int i = 0; i < wide; i++) {
                    int from = Math.max(0, j - reach) * wide + i;
                    int to = Math.min(high - 1, j + reach) * wide + i;
                    values[j * wide + i] = gathered(operation, spare.cells, from, to, wide);
                }
            }
        }

        private static long gathered(int operation, long[] values, int from, int to, int step) {
            long found = BLANK;
            for (int index = from; index <= to; index += step) {
                long value = values[index];
                if (found == BLANK) {
                    found = value;
                } else if (value != BLANK) {
                    found = operation == SUM ? (int) (found + value)
                            : operation == TOP ? Math.max(found, value) : Math.min(found, value);
                }
            }
            return found;
        }

        private void move(int right, int up) {
            long[] values = fromTop(1);
            System.arraycopy(values, 0, spare.cells, 0, area);
            for (int j = 0; j < high; j++) {
                for (int i = 0; i < wide; i++) {
                    int fromI = i + right;
                    int fromJ = j + up;
                    boolean inside = fromI >= 0 && fromI < wide && fromJ >= 0 && fromJ < high;
                    values[j * wide + i] = inside ? spare.cells[fromJ * wide + fromI] : BLANK;
                }
            }
        }
    }

    /** Finds least sums of steps: always goes on from the cell whose sum is the least so far. */
    private static final class Spreader {
        private static final int ABSENT = -1;

        // The reached cells that are still to be gone on from, as a heap by their sums, and for
        // each cell where it stands there.
        private final int[] heap = new int[MOST_CELLS];
        private final int[] slots = new int[MOST_CELLS];
        private int waiting;
        private Raster costs;
        private Raster sums;

        void run(Raster costs, Raster seeds, Raster sums) {
            this.costs = costs;
            this.sums = sums;
            waiting = 0;
            Arrays.fill(slots, ABSENT);
            int area = sums.cells.length;
            for (int index = 0; index < area; index++) {
                if (seeds.cells[index] != BLANK && isOpen(index)) {
                    improve(index, 0);
                }
            }
            for (int round = 0; round < area && waiting > 0; round++) {
                goOnFrom(takeLeast());
            }
        }

        private boolean isOpen(int index) {
            long cost = costs.cells[index];
            return cost >= 0 && cost <= GREATEST_COST;
        }

        private void goOnFrom(int index) {
            int i = index % sums.wide;
            int j = index / sums.wide;
            for (int up = -1; up <= 1; up++) {
                for (int right = -1; right <= 1; right++) {
                    if (sums.reaches(i + right, j + up)) {
                        int factor = right != 0 && up != 0 ? ACROSS : STRAIGHT;
                        step(index, sums.indexOf(i + right, j + up), factor);
                    }
                }
            }
        }

        // A step to the cell itself is tried too, but never makes its sum less.
        private void step(int from, int to, int factor) {
            if (!isOpen(to)) {
                return;
            }
            long sum = sums.cells[from] + (costs.cells[from] + costs.cells[to]) * factor;
            if (sum < sums.cells[to]) {
                improve(to, sum);
            }
        }

        private void improve(int index, long sum) {
            sums.cells[index] = sum;
            if (slots[index] == ABSENT) {
                if (waiting >= heap.length) {
                    return;
                }
                slots[index] = waiting;
                waiting++;
            }
            rise(index, slots[index]);
        }

        private int takeLeast() {
            int least = heap[0];
            slots[least] = ABSENT;
            waiting--;
            if (waiting > 0) {
                sink(heap[waiting]);
            }
            return least;
        }

        private void rise(int index, int slot) {
            int place = slot;
            while (place > 0) {
                int parent = (place - 1) / 2;
                if (sums.cells[heap[parent]] <= sums.cells[index]) {
                    break;
                }
                settle(heap[parent], place);
                place = parent;
            }
            settle(index, place);
        }

        private void sink(int index) {
            int place = 0;
            for (int child = 1; child < waiting; child = 2 * place + 1) {
                if (child + 1 < waiting && sumAt(child + 1) < sumAt(child)) {
                    child++;
                }
                if (sums.cells[index] <= sumAt(child)) {
                    break;
                }
                settle(heap[child], place);
                place = child;
            }
            settle(index, place);
        }

        private long sumAt(int slot) {
            return sums.cells[heap[slot]];
        }

        private void settle(int index, int slot) {
            heap[slot] = index;
            slots[index] = slot;
        }
    }
}

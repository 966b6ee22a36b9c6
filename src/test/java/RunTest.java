import java.nio.charset.StandardCharsets;
import java.util.ArrayList;
import java.util.List;
import java.util.Random;

/**
 * Random runs of up to 512 calls, with arguments at and beyond every bound, against a plain model of
 * the state: every answer is due from the calls before it, and no call throws.
 */
public final class RunTest {
    private static final int[] EDGES = {-1, 0, 1, 2, 3, 4, 5, 9, 10, 19, 20, 21, 39, 40, 41, 49,
        50, 51, 1000, 1001, 15999, 16000, 16001, Integer.MIN_VALUE, Integer.MAX_VALUE};
    private static final String[] TEXTS = {"a", "b+1", "a<b?a:b", "sum(a,3)", "top(a,4)", "1+2",
        "at(a,-50,50)", "at(a,0,51)", "or(a,7)", "j*j", "k", "a/0", "blank(a)", "a a", "(a", "",
        "min(a,b)", "a+1234567890", "-----a", "abs(c)%3", "a?", "low(b,0)", " \n", "c#d", "max(a"};

    /** A cell is null where it is blank, and UNKNOWN where only the class has worked it out. */
    private static final Long UNKNOWN = 5000000000L;

    private static final class Model {
        final List<int[]> sizes = new ArrayList<>();
        final List<Long[]> cells = new ArrayList<>();
        final StringBuilder tray = new StringBuilder();
        int place = -1;

        Long[] cellsOf(int r) {
            return r >= 0 && r < cells.size() ? cells.get(r) : null;
        }

        boolean hasCell(int r, int i, int j) {
            return cellsOf(r) != null && i >= 0 && i < sizes.get(r)[0] && j >= 0
                    && j < sizes.get(r)[1];
        }

        int add(int w, int h, Long first) {
            Long[] fresh = new Long[w * h];
            java.util.Arrays.fill(fresh, first);
            sizes.add(new int[] {w, h});
            cells.add(fresh);
            return cells.size() - 1;
        }
    }

    private final Random random;
    private final CellAlgebra x = new CellAlgebra();
    private final Model model = new Model();

    private RunTest(Random random) {
        this.random = random;
    }

    public static void main(String[] args) {
        Random random = new Random(512);
        for (int run = 0; run < 400; run++) {
            RunTest test = new RunTest(random);
            for (int k = random.nextInt(41); k > 0; k--) {
                test.raster();
            }
            // Each round makes one call or two: with the rasters at first, at most 512 in all.
            for (int round = 0; round < 236; round++) {
                test.anyCall();
            }
        }
        Check.finish();
    }

    private int number() {
        return random.nextInt(20) == 0 ? random.nextInt() : EDGES[random.nextInt(EDGES.length)];
    }

    private int small(int most) {
        return random.nextInt(6) == 0 ? number() : random.nextInt(most);
    }

    private void anyCall() {
        switch (random.nextInt(13)) {
            case 0:
            case 1:
                feed();
                break;
            case 2:
            case 3:
                end();
                break;
            case 4:
                raster();
                break;
            case 5:
                put();
                break;
            case 6:
                wipe();
                break;
            case 7:
            case 8:
                cell();
                break;
            case 9:
                size();
                break;
            case 10:
                algebra();
                break;
            case 11:
                Check.due("place()", x.place(), model.place);
                Check.due("rasters()", x.rasters(), model.cells.size());
                break;
            default:
                spread();
                break;
        }
    }

    private void feed() {
        String text = TEXTS[random.nextInt(TEXTS.length)];
        String bytes = text + (random.nextInt(5) == 0 ? "\u0000" : " ").repeat(20 - text.length());
        int[] words = new int[5];
        for (int k = 0; k < 20; k++) {
            words[k / 4] = words[k / 4] << 8 | bytes.charAt(k);
        }
        model.tray.append(bytes);
        int got = x.feed(words[0], words[1], words[2], words[3], words[4]);
        Check.due("feed", got, model.tray.length());
        if (random.nextInt(3) == 0) {
            int n = model.tray.length() - 20 + text.length();
            Check.due("end(" + n + ")", x.end(n), true);
            model.tray.setLength(n);
        }
    }

    private void end() {
        int has = model.tray.length();
        int n = random.nextInt(4) == 0 ? number() : has - 1 + random.nextInt(3);
        n = random.nextInt(8) == 0 ? 0 : n;
        boolean fits = n >= 0 && n <= has;
        Check.due("end(" + n + ") of " + has, x.end(n), fits);
        if (fits) {
            model.tray.setLength(n);
        }
    }

    private void raster() {
        int w = random.nextInt(3) == 0 ? number() : 2;
        int h = random.nextInt(3) == 0 ? number() : 3;
        String call = "raster(" + w + ", " + h + ")";
        int count = model.cells.size();
        if (w < 1 || w > 50 || h < 1 || h > 50) {
            Check.due(call, x.raster(w, h), -14);
        } else if (count == 40) {
            Check.due(call, x.raster(w, h), -12);
        } else {
            Check.due(call, x.raster(w, h), model.add(w, h, null));
        }
    }

    private void put() {
        int r = small(model.cells.size() + 1);
        int i = small(3);
        int j = small(4);
        int v = number();
        boolean there = model.hasCell(r, i, j);
        String call = "put(" + r + ", " + i + ", " + j + ", " + v + ")";
        Check.due(call, x.put(r, i, j, v), there);
        if (there) {
            model.cellsOf(r)[j * model.sizes.get(r)[0] + i] = (long) v;
        }
    }

    private void wipe() {
        int r = small(model.cells.size() + 1);
        int i = small(3);
        int j = small(4);
        boolean there = model.hasCell(r, i, j);
        Check.due("wipe(" + r + ", " + i + ", " + j + ")", x.wipe(r, i, j), there);
        if (there) {
            model.cellsOf(r)[j * model.sizes.get(r)[0] + i] = null;
        }
    }

    private void cell() {
        int r = small(model.cells.size() + 1);
        int i = small(3);
        int j = small(4);
        long got = x.cell(r, i, j);
        String call = "cell(" + r + ", " + i + ", " + j + ")";
        if (!model.hasCell(r, i, j)) {
            Check.due(call, got, Check.NO_CELL);
            return;
        }
        int index = j * model.sizes.get(r)[0] + i;
        Long known = model.cellsOf(r)[index];
        if (known == UNKNOWN) {
            Check.due(call + " " + got + " is one", got == Check.BLANK || got == (int) got, true);
            model.cellsOf(r)[index] = got == Check.BLANK ? null : Long.valueOf(got);
        } else {
            Check.due(call, got, known == null ? Check.BLANK : known);
        }
    }

    private void size() {
        int r = small(model.cells.size() + 1);
        int what = random.nextInt(4) == 0 ? number() : random.nextInt(3);
        int got = x.size(r, what);
        String call = "size(" + r + ", " + what + ")";
        if (model.cellsOf(r) == null || what < 0 || what > 2) {
            Check.due(call, got, -14);
        } else if (what < 2) {
            Check.due(call, got, model.sizes.get(r)[what]);
        } else {
            dueFilled(call, got, model.cellsOf(r));
        }
    }

    private static void dueFilled(String call, int got, Long[] cells) {
        int unknown = 0;
        int filled = 0;
        for (Long v : cells) {
            unknown += v == UNKNOWN ? 1 : 0;
            filled += v != null && v != UNKNOWN ? 1 : 0;
        }
        boolean fits = got >= filled && got <= filled + unknown;
        Check.due(call + " " + got + " is " + filled + " and up to " + unknown, fits, true);
    }

    private void algebra() {
        String text = model.tray.toString();
        model.tray.setLength(0);
        model.place = FaultFinder.find(text, model.sizes.toArray(new int[0][]));
        int got = x.algebra();
        if (model.place >= 0) {
            Check.due("algebra() of '" + text + "'", got, -1);
        } else if (model.cells.size() == 40) {
            Check.due("algebra() of '" + text + "'", got, -12);
        } else {
            int[] size = model.sizes.get(firstLetter(text));
            Check.due("algebra() of '" + text + "'", got, model.add(size[0], size[1], UNKNOWN));
        }
        Check.due("place() of '" + text + "'", x.place(), model.place);
    }

    private static int firstLetter(String text) {
        byte[] bytes = text.replaceAll("[a-z]{2,}", "").getBytes(StandardCharsets.ISO_8859_1);
        for (byte b : bytes) {
            if (b >= 'a' && b <= 'j') {
                return b - 'a';
            }
        }
        return -1;
    }

    private void spread() {
        int c = small(model.cells.size() + 1);
        int s = small(model.cells.size() + 1);
        int got = x.spread(c, s);
        String call = "spread(" + c + ", " + s + ")";
        if (model.cellsOf(c) == null || model.cellsOf(s) == null) {
            Check.due(call, got, -14);
            return;
        }
        int[] one = model.sizes.get(c);
        int[] other = model.sizes.get(s);
        if (one[0] != other[0] || one[1] != other[1]) {
            Check.due(call, got, -1);
        } else if (model.cells.size() == 40) {
            Check.due(call, got, -12);
        } else {
            Check.due(call, got, model.add(one[0], one[1], UNKNOWN));
        }
    }
}

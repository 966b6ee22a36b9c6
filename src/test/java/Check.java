import java.nio.charset.StandardCharsets;

/** What the tests share: counting wrong answers, and handing texts to an object. */
final class Check {
    static final long BLANK = 3000000000L;
    static final long NO_CELL = 4000000000L;
    private static int wrong = 0;
    private static String sentence = "";

    private Check() {
    }

    /** The words of the document that the answers from here on are due by. */
    static void sentence(String words) {
        sentence = "[" + words + "] ";
    }

    static void due(String what, long got, long want) {
        if (got != want) {
            wrong++;
            System.out.println(sentence + what + " answered " + got + ", due is " + want);
        }
    }

    static void due(String what, boolean got, boolean want) {
        due(what, got ? 1 : 0, want ? 1 : 0);
    }

    static void finish() {
        System.out.println(wrong == 0 ? "all answers are as due" : wrong + " answers are wrong");
        if (wrong != 0) {
            System.exit(1);
        }
    }

    /** Feeds the text and no byte more. */
    static void feed(CellAlgebra x, String text) {
        byte[] bytes = text.getBytes(StandardCharsets.ISO_8859_1);
        int[] words = new int[5];
        int fed = 0;
        while (fed < bytes.length) {
            for (int k = 0; k < 20; k++) {
                int b = fed + k < bytes.length ? bytes[fed + k] & 255 : 0;
                words[k / 4] = words[k / 4] << 8 | b;
            }
            x.feed(words[0], words[1], words[2], words[3], words[4]);
            fed += 20;
        }
        x.end(bytes.length);
    }

    static int work(CellAlgebra x, String text) {
        feed(x, text);
        return x.algebra();
    }

    /** A raster of w by h with the given cells, row by row from below; null is a blank. */
    static int raster(CellAlgebra x, int w, int h, Integer... cells) {
        int r = x.raster(w, h);
        for (int k = 0; k < cells.length; k++) {
            if (cells[k] != null) {
                x.put(r, k % w, k / w, cells[k]);
            }
        }
        return r;
    }

    /** Raster r has just these cells; null is a blank. */
    static void dueCells(String what, CellAlgebra x, int r, int w, int h, Integer... cells) {
        due(what + ": w", x.size(r, 0), w);
        due(what + ": h", x.size(r, 1), h);
        for (int k = 0; k < cells.length; k++) {
            long want = cells[k] == null ? BLANK : cells[k];
            due(what + ": cell " + k % w + " " + k / w, x.cell(r, k % w, k / w), want);
        }
    }

    /** All that can be seen of an object without changing it, but for the tray. */
    static String seen(CellAlgebra x) {
        StringBuilder all = new StringBuilder("place " + x.place());
        for (int r = 0; r < x.rasters(); r++) {
            all.append("; raster ").append(r).append(':');
            for (int k = 0; k < x.size(r, 0) * x.size(r, 1); k++) {
                all.append(' ').append(x.cell(r, k % x.size(r, 0), k / x.size(r, 0)));
            }
        }
        return all.toString();
    }

    /** Nothing that can be seen has changed. */
    static void dueSame(String what, CellAlgebra x, String before) {
        String now = seen(x);
        due(what + " changed '" + before + "' to '" + now + "'", now.equals(before), true);
    }

    /** The text makes a raster with just these cells. */
    static void dueText(CellAlgebra x, String text, int w, int h, Integer... cells) {
        int count = x.rasters();
        due("'" + text + "'", work(x, text), count);
        due("place of '" + text + "'", x.place(), -1);
        due("rasters after '" + text + "'", x.rasters(), count + 1);
        dueCells("'" + text + "'", x, count, w, h, cells);
    }

    /** The text has its first fault at this place. */
    static void dueFault(CellAlgebra x, String text, int place) {
        int count = x.rasters();
        due("'" + text + "'", work(x, text), -1);
        due("place of '" + text + "'", x.place(), place);
        due("rasters after '" + text + "'", x.rasters(), count);
    }
}

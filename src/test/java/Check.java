import java.nio.charset.StandardCharsets;

/** What the tests share: counting wrong answers, and handing texts to an object. */
final class Check {
    static final long BLANK = 3000000000L;
    static final long NO_CELL = 4000000000L;
    private static int wrong = 0;

    private Check() {
    }

    static void due(String what, long got, long want) {
        if (got != want) {
            wrong++;
            System.out.println(what + " answered " + got + ", due is " + want);
        }
    }

    static void due(String what, boolean got, boolean want) {
        due(what, got ? 1 : 0, want ? 1 : 0);
    }

    static void finish() {
        System.out.println(wrong == 0 ? "all answers are as due" : wrong + " answers are wrong");
        if (wrong != 0) {
            System.exit(1);
        }
    }

    /** Feeds the text and no byte more. */
    static void feed(CellAlgebra x, String text) {
        byte[] bytes = text.getBytes(StandardCharsets.ISO_8859_1);
        int[] words = new int[5];
        int fed = 0;
        while (fed < bytes.length) {
            for (int k = 0; k < 20; k++) {
                int b = fed + k < bytes.length ? bytes[fed + k] & 255 : 0;
                words[k / 4] = words[k / 4] << 8 | b;
            }
            x.feed(words[0], words[1], words[2], words[3], words[4]);
            fed += 20;
        }
        x.end(bytes.length);
    }

    static int work(CellAlgebra x, String text) {
        feed(x, text);
        return x.algebra();
    }

    /** A raster of w by h with the given cells, row by row from below; null is a blank. */
    static int raster(CellAlgebra x, int w, int h, Integer... cells) {
        int r = x.raster(w, h);
        for (int k = 0; k < cells.length; k++) {
            if (cells[k] != null) {
                x.put(r, k % w, k / w, cells[k]);
            }
        }
        return r;
    }

    /** Raster r has just these cells; null is a blank. */
    static void dueCells(String what, CellAlgebra x, int r, int w, int h, Integer... cells) {
        due(what + ": w", x.size(r, 0), w);
        due(what + ": h", x.size(r, 1), h);
        for (int k = 0; k < cells.length; k++) {
            long want = cells[k] == null ? BLANK : cells[k];
            due(what + ": cell " + k % w + " " + k / w, x.cell(r, k % w, k / w), want);
        }
    }

    /** The text makes a raster with just these cells. */
    static void dueText(CellAlgebra x, String text, int w, int h, Integer... cells) {
        int count = x.rasters();
        due("'" + text + "'", work(x, text), count);
        due("place of '" + text + "'", x.place(), -1);
        due("rasters after '" + text + "'", x.rasters(), count + 1);
        dueCells("'" + text + "'", x, count, w, h, cells);
    }

    /** The text has its first fault at this place. */
    static void dueFault(CellAlgebra x, String text, int place) {
        int count = x.rasters();
        due("'" + text + "'", work(x, text), -1);
        due("place of '" + text + "'", x.place(), place);
        due("rasters after '" + text + "'", x.rasters(), count);
    }
}

/** Promises 1 and 4 to 9: a new object, raster, put, wipe, cell, size, rasters. */
public final class RasterTest {
    private static final int[] FAR = {-1, Integer.MIN_VALUE, Integer.MAX_VALUE, 1 << 16, 40, 51};

    public static void main(String[] args) {
        newObject();
        sizes();
        order();
        cells();
        wrongPlaces();
        fortyForLife();
        resultsMayBeWritten();
        Check.finish();
    }

    private static void newObject() {
        CellAlgebra x = new CellAlgebra();
        Check.due("rasters()", x.rasters(), 0);
        Check.due("place()", x.place(), -1);
        Check.due("end(1)", x.end(1), false);
        Check.due("end(0)", x.end(0), true);
        Check.due("size(0, 0)", x.size(0, 0), -14);
        Check.due("cell(0, 0, 0)", x.cell(0, 0, 0), Check.NO_CELL);
        Check.due("put(0, 0, 0, 1)", x.put(0, 0, 0, 1), false);
        Check.due("wipe(0, 0, 0)", x.wipe(0, 0, 0), false);
        Check.due("spread(0, 0)", x.spread(0, 0), -14);
        CellAlgebra other = new CellAlgebra();
        other.raster(2, 2);
        Check.due("rasters() beside another object", x.rasters(), 0);
    }

    private static void sizes() {
        CellAlgebra x = new CellAlgebra();
        int[][] bad = {{0, 1}, {1, 0}, {51, 1}, {1, 51}, {-1, 5}, {5, -1},
            {Integer.MIN_VALUE, 1}, {1, Integer.MAX_VALUE}, {65536, 65536}};
        for (int[] b : bad) {
            Check.due("raster(" + b[0] + ", " + b[1] + ")", x.raster(b[0], b[1]), -14);
        }
        Check.due("rasters()", x.rasters(), 0);
        Check.due("raster(1, 1)", x.raster(1, 1), 0);
        Check.due("raster(50, 50)", x.raster(50, 50), 1);
        Check.due("raster(50, 1)", x.raster(50, 1), 2);
        Check.due("raster(1, 50)", x.raster(1, 50), 3);
        Check.due("rasters()", x.rasters(), 4);
        Check.due("size(2, 0)", x.size(2, 0), 50);
        Check.due("size(2, 1)", x.size(2, 1), 1);
        Check.due("size(3, 0)", x.size(3, 0), 1);
        Check.due("size(3, 1)", x.size(3, 1), 50);
        Check.due("size(3, 2)", x.size(3, 2), 0);
        Check.due("size(1, 3)", x.size(1, 3), -14);
        Check.due("size(1, -1)", x.size(1, -1), -14);
        Check.due("size(4, 0)", x.size(4, 0), -14);
        Check.due("size(-1, 2)", x.size(-1, 2), -14);
        Check.due("put the last", x.put(1, 49, 49, 3), true);
        Check.due("cell the last", x.cell(1, 49, 49), 3);
    }

    private static void order() {
        CellAlgebra x = new CellAlgebra();
        x.raster(3, 2);
        for (int k = 0; k < 6; k++) {
            Check.due("put", x.put(0, k % 3, k / 3, 10 + k), true);
        }
        for (int k = 0; k < 6; k++) {
            Check.due("cell " + k, x.cell(0, k % 3, k / 3), 10 + k);
        }
        Check.due("size(0, 2)", x.size(0, 2), 6);
        Check.due("cell(0, 2, 1)", x.cell(0, 2, 1), 15);
        Check.due("cell(0, 1, 2)", x.cell(0, 1, 2), Check.NO_CELL);
    }

    private static void cells() {
        CellAlgebra x = new CellAlgebra();
        x.raster(2, 2);
        Check.due("blank at first", x.cell(0, 0, 0), Check.BLANK);
        for (int v : new int[] {0, -1, 7, Integer.MIN_VALUE, Integer.MAX_VALUE, -1294967296}) {
            Check.due("put " + v, x.put(0, 1, 0, v), true);
            Check.due("cell " + v, x.cell(0, 1, 0), v);
            Check.due("size(0, 2)", x.size(0, 2), 1);
        }
        Check.due("its neighbour", x.cell(0, 0, 1), Check.BLANK);
        Check.due("wipe", x.wipe(0, 1, 0), true);
        Check.due("wiped", x.cell(0, 1, 0), Check.BLANK);
        Check.due("wipe again", x.wipe(0, 1, 0), true);
        Check.due("size(0, 2)", x.size(0, 2), 0);
    }

    private static void wrongPlaces() {
        CellAlgebra x = new CellAlgebra();
        x.raster(3, 2);
        for (int far : FAR) {
            Check.due("put r " + far, x.put(far, 0, 0, 1), false);
            Check.due("put i " + far, x.put(0, far, 0, 1), false);
            Check.due("put j " + far, x.put(0, 0, far, 1), false);
            Check.due("wipe r " + far, x.wipe(far, 0, 0), false);
            Check.due("wipe i " + far, x.wipe(0, far, 0), false);
            Check.due("wipe j " + far, x.wipe(0, 0, far), false);
            Check.due("cell r " + far, x.cell(far, 0, 0), Check.NO_CELL);
            Check.due("cell i " + far, x.cell(0, far, 0), Check.NO_CELL);
            Check.due("cell j " + far, x.cell(0, 0, far), Check.NO_CELL);
            Check.due("size r " + far, x.size(far, 0), -14);
            Check.due("size what " + far, x.size(0, far), -14);
        }
        Check.due("put(0, 3, 0, 1)", x.put(0, 3, 0, 1), false);
        Check.due("put(0, 0, 2, 1)", x.put(0, 0, 2, 1), false);
        Check.due("size(0, 2)", x.size(0, 2), 0);
    }

    private static void fortyForLife() {
        CellAlgebra x = new CellAlgebra();
        for (int k = 0; k < 40; k++) {
            Check.due("raster " + k, x.raster(1 + k, 50 - k), k);
        }
        Check.due("a 41st", x.raster(1, 1), -12);
        Check.due("a 41st of no size", x.raster(0, 1), -14);
        Check.due("rasters()", x.rasters(), 40);
        Check.due("size(39, 0)", x.size(39, 0), 40);
        Check.due("algebra", Check.work(x, "a"), -12);
        Check.due("place()", x.place(), -1);
        Check.due("a fault before room", Check.work(x, "a +"), -1);
        Check.due("place()", x.place(), 3);
        Check.due("spread(0, 0)", x.spread(0, 0), -12);
        Check.due("spread(0, 1)", x.spread(0, 1), -1);
        Check.due("spread(0, 40)", x.spread(0, 40), -14);
        Check.due("rasters()", x.rasters(), 40);
    }

    private static void resultsMayBeWritten() {
        CellAlgebra x = new CellAlgebra();
        Check.raster(x, 2, 1, 4, null);
        Check.due("a", Check.work(x, "a"), 1);
        Check.due("put", x.put(1, 1, 0, 9), true);
        Check.due("wipe", x.wipe(1, 0, 0), true);
        Check.dueCells("the first stays", x, 0, 2, 1, 4, null);
        Check.dueCells("the new one", x, 1, 2, 1, null, 9);
        Check.dueText(x, "b", 2, 1, null, 9);
    }
}

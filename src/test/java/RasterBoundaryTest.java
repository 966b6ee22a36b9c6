/** Promises 1 and 4 to 9 and RASTERS: one test for each sentence that names a boundary. */
public final class RasterBoundaryTest {
    private static final int LEAST = Integer.MIN_VALUE;
    private static final int GREATEST = Integer.MAX_VALUE;

    public static void main(String[] args) {
        newObjectHasNoRasters();
        numberedFromNought();
        fortyForLife();
        refusedOnesTakeNoNumber();
        sides();
        rightAndUp();
        anyInt();
        blankAtFirst();
        othersMayBeWritten();
        sidesTooSmallOrTooLarge();
        sidesBeforeRoom();
        putWhereThereIsNone();
        wipeWhereThereIsNone();
        cellBlank();
        cellWhereThereIsNone();
        sizeOfFilled();
        sizeOfNone();
        howManyRasters();
        Check.finish();
    }

    /** Calls that name no cell of a raster 0 of 3 by 2, the only one there is. */
    private static int[][] noCells() {
        return new int[][] {
            {-1, 0, 0}, {1, 0, 0}, {39, 0, 0}, {40, 0, 0}, {LEAST, 0, 0}, {GREATEST, 0, 0},
            {0, -1, 0}, {0, 3, 0}, {0, 0, -1}, {0, 0, 2}, {0, -1, 1}, {0, 3, -1}, {0, -3, 1},
            {0, LEAST, 0}, {0, GREATEST, 0}, {0, 0, LEAST}, {0, 0, GREATEST},
            {0, 1, 1 << 30}, {0, 0, 0x55555556}, {0, 2, 2}, {0, 3, 1}, {0, 3, 2},
            {0, LEAST, LEAST}, {0, GREATEST, GREATEST}, {256, 0, 0}, {0, 256, 0}, {0, 0, 256}};
    }

    private static String call(String name, int[] n) {
        return name + "(" + n[0] + ", " + n[1] + ", " + n[2] + ")";
    }

    private static CellAlgebra threeByTwo() {
        CellAlgebra x = new CellAlgebra();
        Check.raster(x, 3, 2, 1, 2, 3, 4, null, 6);
        return x;
    }

    private static void newObjectHasNoRasters() {
        Check.sentence("No rasters, no bytes.");
        CellAlgebra x = new CellAlgebra();
        Check.due("rasters()", x.rasters(), 0);
        Check.due("size(0, 0)", x.size(0, 0), -14);
        Check.due("cell(0, 0, 0)", x.cell(0, 0, 0), Check.NO_CELL);
        Check.due("put(0, 0, 0, 1)", x.put(0, 0, 0, 1), false);
        Check.due("wipe(0, 0, 0)", x.wipe(0, 0, 0), false);
        Check.due("spread(0, 0)", x.spread(0, 0), -14);
        Check.dueFault(x, "a", 0);
        Check.due("raster(1, 1)", x.raster(1, 1), 0);
        Check.due("rasters() of another object", new CellAlgebra().rasters(), 0);
    }

    private static void numberedFromNought() {
        Check.sentence("RASTERS are numbered from 0");
        CellAlgebra x = new CellAlgebra();
        Check.due("the first", x.raster(1, 1), 0);
        Check.due("by algebra()", Check.work(x, "a"), 1);
        Check.due("by spread()", x.spread(0, 1), 2);
        Check.due("by raster()", x.raster(2, 2), 3);
    }

    private static CellAlgebra fortyOfEachKind() {
        CellAlgebra x = new CellAlgebra();
        x.raster(1, 1);
        for (int k = 1; k < 40; k++) {
            int number = k % 3 == 0 ? x.raster(1, 1) : k % 3 == 1 ? Check.work(x, "a")
                    : x.spread(0, 0);
            Check.due("raster " + k, number, k);
        }
        return x;
    }

    private static void fortyForLife() {
        Check.sentence("at most 40 for life");
        CellAlgebra x = fortyOfEachKind();
        Check.due("a 41st by raster()", x.raster(1, 1), -12);
        Check.due("a 41st by algebra()", Check.work(x, "a"), -12);
        Check.due("a 41st by spread()", x.spread(0, 0), -12);
        Check.due("rasters()", x.rasters(), 40);
        Check.due("put into the 40th", x.put(39, 0, 0, 9), true);
        Check.due("cell of the 40th", x.cell(39, 0, 0), 9);
        Check.due("cell of a 41st", x.cell(40, 0, 0), Check.NO_CELL);
        Check.due("size of a 41st", x.size(40, 0), -14);
        Check.due("still a 41st", x.raster(50, 50), -12);
    }

    private static void refusedOnesTakeNoNumber() {
        Check.sentence("at most 40 for life");
        CellAlgebra x = new CellAlgebra();
        x.raster(1, 1);
        x.raster(1, 2);
        for (int k = 0; k < 50; k++) {
            Check.due("raster(0, 1)", x.raster(0, 1), -14);
            Check.due("algebra()", x.algebra(), -1);
            Check.due("spread(0, 1)", x.spread(0, 1), -1);
            Check.due("spread(0, 2)", x.spread(0, 2), -14);
        }
        for (int k = 2; k < 40; k++) {
            Check.due("raster(1, 1)", x.raster(1, 1), k);
        }
        Check.due("a 41st", x.raster(1, 1), -12);
    }

    private static void sides() {
        Check.sentence("with w by h cells, 1 .. 50 each");
        int[][] sides = {{1, 1}, {1, 50}, {50, 1}, {50, 50}, {2, 49}, {49, 2}};
        CellAlgebra x = new CellAlgebra();
        for (int r = 0; r < sides.length; r++) {
            int w = sides[r][0];
            int h = sides[r][1];
            Check.due("raster(" + w + ", " + h + ")", x.raster(w, h), r);
            Check.due("w", x.size(r, 0), w);
            Check.due("h", x.size(r, 1), h);
            int[][] corners = {{0, 0}, {w - 1, 0}, {0, h - 1}, {w - 1, h - 1}};
            for (int k = 0; k < 4; k++) {
                Check.due("put", x.put(r, corners[k][0], corners[k][1], 10 + k), true);
                Check.due("cell", x.cell(r, corners[k][0], corners[k][1]), 10 + k);
            }
            Check.due("right of it", x.cell(r, w, 0), Check.NO_CELL);
            Check.due("above it", x.cell(r, 0, h), Check.NO_CELL);
        }
    }

    private static void rightAndUp() {
        Check.sentence("cell (i, j) is i to the right and j up");
        CellAlgebra x = new CellAlgebra();
        Check.raster(x, 3, 2, 1, 2, 3, 4, 5, 6);
        Check.due("two to the right", x.cell(0, 2, 0), 3);
        Check.due("one up", x.cell(0, 0, 1), 4);
        Check.dueText(x, "at(a,1,0)", 3, 2, 2, 3, null, 5, 6, null);
        Check.dueText(x, "at(a,0,1)", 3, 2, 4, 5, 6, null, null, null);
    }

    private static void anyInt() {
        Check.sentence("it has an int or is BLANK");
        CellAlgebra x = new CellAlgebra();
        x.raster(2, 1);
        int[] values = {0, 1, -1, LEAST, GREATEST, LEAST + 1, (int) 3000000000L, (int) 4000000000L,
            -14, -12};
        for (int v : values) {
            Check.due("put " + v, x.put(0, 1, 0, v), true);
            Check.due("cell", x.cell(0, 1, 0), v);
            Check.due("how many are not blank", x.size(0, 2), 1);
            Check.due("its neighbour", x.cell(0, 0, 0), Check.BLANK);
        }
    }

    private static void blankAtFirst() {
        Check.sentence("Rasters made by raster() are blank at first, and may be written");
        CellAlgebra x = new CellAlgebra();
        Check.due("raster(5, 4)", x.raster(5, 4), 0);
        for (int k = 0; k < 20; k++) {
            Check.due("cell", x.cell(0, k % 5, k / 5), Check.BLANK);
        }
        for (int k = 0; k < 20; k++) {
            Check.due("put", x.put(0, k % 5, k / 5, k), true);
            Check.due("how many", x.size(0, 2), k + 1);
        }
        Check.due("a second one", x.raster(5, 4), 1);
        Check.due("is blank", x.size(1, 2), 0);
    }

    private static void othersMayBeWritten() {
        Check.sentence("others may be written too");
        CellAlgebra x = new CellAlgebra();
        Check.raster(x, 2, 1, 4, null);
        Check.due("by algebra()", Check.work(x, "a"), 1);
        Check.due("by spread()", x.spread(0, 0), 2);
        for (int r = 1; r <= 2; r++) {
            Check.due("put", x.put(r, 1, 0, 70 + r), true);
            Check.due("wipe", x.wipe(r, 0, 0), true);
        }
        Check.dueCells("the first stays", x, 0, 2, 1, 4, null);
        Check.dueCells("by algebra()", x, 1, 2, 1, null, 71);
        Check.dueCells("by spread()", x, 2, 2, 1, null, 72);
        Check.dueText(x, "or(b,c+10)", 2, 1, null, 71);
        x.put(0, 0, 0, 5);
        Check.dueCells("by algebra() later", x, 1, 2, 1, null, 71);
    }

    private static void sidesTooSmallOrTooLarge() {
        Check.sentence("-14 w or h is not 1 .. 50");
        CellAlgebra x = threeByTwo();
        String before = Check.seen(x);
        int[] wrong = {0, -1, 51, 52, 256, 257, 65536 + 1, -50, LEAST, LEAST + 1, GREATEST};
        for (int side : wrong) {
            for (int other : new int[] {1, 50}) {
                Check.due("raster(" + side + ", " + other + ")", x.raster(side, other), -14);
                Check.due("raster(" + other + ", " + side + ")", x.raster(other, side), -14);
            }
            Check.due("raster of " + side + " twice", x.raster(side, side), -14);
        }
        Check.dueSame("refused rasters", x, before);
        Check.due("the next", x.raster(50, 50), 1);
    }

    private static void sidesBeforeRoom() {
        Check.sentence("-14 w or h is not 1 .. 50, -12.");
        CellAlgebra x = new CellAlgebra();
        for (int k = 0; k < 40; k++) {
            x.raster(1, 1);
        }
        Check.due("raster(1, 1)", x.raster(1, 1), -12);
        Check.due("raster(50, 50)", x.raster(50, 50), -12);
        Check.due("raster(0, 1)", x.raster(0, 1), -14);
        Check.due("raster(1, 51)", x.raster(1, 51), -14);
    }

    private static void putWhereThereIsNone() {
        Check.sentence("A cell becomes v: true; false if there is none.");
        CellAlgebra x = threeByTwo();
        String before = Check.seen(x);
        for (int[] n : noCells()) {
            Check.due(call("put", n), x.put(n[0], n[1], n[2], 7), false);
        }
        Check.dueSame("refused puts", x, before);
        Check.due("the last cell", x.put(0, 2, 1, 7), true);
        Check.due("a blank one", x.put(0, 1, 1, 8), true);
        Check.due("the first again", x.put(0, 0, 0, 9), true);
        Check.dueCells("after puts", x, 0, 3, 2, 9, 2, 3, 4, 8, 7);
    }

    private static void wipeWhereThereIsNone() {
        Check.sentence("A cell becomes blank: true; false if there is none.");
        CellAlgebra x = threeByTwo();
        String before = Check.seen(x);
        for (int[] n : noCells()) {
            Check.due(call("wipe", n), x.wipe(n[0], n[1], n[2]), false);
        }
        Check.dueSame("refused wipes", x, before);
        Check.due("the last cell", x.wipe(0, 2, 1), true);
        Check.due("one that is blank already", x.wipe(0, 1, 1), true);
        Check.dueCells("after wipes", x, 0, 3, 2, 1, 2, 3, 4, null, null);
    }

    private static void cellBlank() {
        Check.sentence("3000000000 if it is blank");
        CellAlgebra x = threeByTwo();
        Check.due("never put", x.cell(0, 1, 1), 3000000000L);
        x.wipe(0, 0, 0);
        Check.due("wiped", x.cell(0, 0, 0), 3000000000L);
        Check.due("by algebra()", Check.work(x, "1/(a-2)"), 1);
        Check.due("divided by 0", x.cell(1, 1, 0), 3000000000L);
        x.put(0, 0, 0, (int) 3000000000L);
        Check.due("an int with the same bits", x.cell(0, 0, 0), -1294967296L);
    }

    private static void cellWhereThereIsNone() {
        Check.sentence("4000000000 if there is none");
        CellAlgebra x = threeByTwo();
        String before = Check.seen(x);
        for (int[] n : noCells()) {
            Check.due(call("cell", n), x.cell(n[0], n[1], n[2]), 4000000000L);
        }
        Check.dueSame("cells that are not there", x, before);
    }

    private static void sizeOfFilled() {
        Check.sentence("2 how many cells are not blank");
        CellAlgebra x = new CellAlgebra();
        x.raster(50, 50);
        Check.due("at first", x.size(0, 2), 0);
        x.put(0, 49, 49, 0);
        Check.due("one, of 0", x.size(0, 2), 1);
        x.put(0, 49, 49, 5);
        Check.due("the same again", x.size(0, 2), 1);
        x.put(0, 0, 0, LEAST);
        Check.due("two", x.size(0, 2), 2);
        x.wipe(0, 49, 49);
        x.wipe(0, 49, 49);
        Check.due("wiped twice", x.size(0, 2), 1);
        Check.due("all", Check.work(x, "or(a,0)"), 1);
        Check.due("of all", x.size(1, 2), 2500);
        Check.due("none", Check.work(x, "b/0"), 2);
        Check.due("of none", x.size(2, 2), 0);
    }

    private static void sizeOfNone() {
        Check.sentence("0 w, 1 h, 2 how many cells are not blank; -14.");
        CellAlgebra x = threeByTwo();
        String before = Check.seen(x);
        Check.due("size(0, 0)", x.size(0, 0), 3);
        Check.due("size(0, 1)", x.size(0, 1), 2);
        Check.due("size(0, 2)", x.size(0, 2), 5);
        for (int r : new int[] {-1, 1, 40, 256, LEAST, GREATEST}) {
            for (int what = -1; what <= 3; what++) {
                Check.due("size(" + r + ", " + what + ")", x.size(r, what), -14);
            }
        }
        for (int what : new int[] {-1, 3, 4, 256, LEAST, GREATEST}) {
            Check.due("size(0, " + what + ")", x.size(0, what), -14);
        }
        Check.dueSame("sizes that are not there", x, before);
    }

    private static void howManyRasters() {
        Check.sentence("How many rasters there are.");
        CellAlgebra x = new CellAlgebra();
        Check.due("none", x.rasters(), 0);
        x.raster(51, 1);
        Check.due("after one refused", x.rasters(), 0);
        x.raster(1, 1);
        Check.due("one", x.rasters(), 1);
        Check.work(x, "a");
        Check.due("by algebra()", x.rasters(), 2);
        Check.work(x, "a a");
        Check.due("after a fault", x.rasters(), 2);
        x.spread(0, 1);
        Check.due("by spread()", x.rasters(), 3);
        x.spread(0, 3);
        Check.due("after a refused spread()", x.rasters(), 3);
        Check.due("forty", fortyOfEachKind().rasters(), 40);
    }
}

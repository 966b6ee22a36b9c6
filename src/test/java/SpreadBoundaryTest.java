/** Promise 12 and SPREAD: one test for each sentence that names a boundary. */
public final class SpreadBoundaryTest {
    private static final int LEAST = Integer.MIN_VALUE;
    private static final int GREATEST = Integer.MAX_VALUE;

    public static void main(String[] args) {
        eightNeighbours();
        straightAndAcross();
        leastOfAllWays();
        anySeedThatIsNotBlank();
        seedsAreNought();
        freeSteps();
        dearestSteps();
        barredByBlanks();
        barredBelowNought();
        barredAboveAThousand();
        barredSeeds();
        unreached();
        aroundBars();
        noWrapAtTheEdges();
        oneCell();
        largest();
        costsAndSeedsStay();
        thereIsNone();
        anotherSize();
        noRoom();
        Check.finish();
    }

    private static void dueSums(CellAlgebra x, int c, int s, int w, int h, Integer... sums) {
        int count = x.rasters();
        String call = "spread(" + c + ", " + s + ")";
        Check.due(call, x.spread(c, s), count);
        Check.dueCells(call, x, count, w, h, sums);
    }

    private static Integer[] all(int count, Integer value) {
        Integer[] cells = new Integer[count];
        java.util.Arrays.fill(cells, value);
        return cells;
    }

    private static Integer[] only(int count, int place, Integer value) {
        Integer[] cells = new Integer[count];
        cells[place] = value;
        return cells;
    }

    private static void eightNeighbours() {
        Check.sentence("ways of steps to one of eight neighbours");
        CellAlgebra x = new CellAlgebra();
        int c = Check.raster(x, 3, 3, all(9, 1));
        int s = Check.raster(x, 3, 3, only(9, 4, 1));
        dueSums(x, c, s, 3, 3, 14, 10, 14, 10, 0, 10, 14, 10, 14);
        int[] corners = {0, 2, 6, 8};
        Integer[][] sums = {{0, 10, 20, 10, 14, 24, 20, 24, 28},
            {20, 10, 0, 24, 14, 10, 28, 24, 20}, {20, 24, 28, 10, 14, 24, 0, 10, 20},
            {28, 24, 20, 24, 14, 10, 20, 10, 0}};
        for (int k = 0; k < 4; k++) {
            int corner = Check.raster(x, 3, 3, only(9, corners[k], -1));
            dueSums(x, c, corner, 3, 3, sums[k]);
        }
    }

    private static void straightAndAcross() {
        Check.sentence("a step costs the sum of both cells' costs times 5, times 7 across corners");
        CellAlgebra x = new CellAlgebra();
        int c = Check.raster(x, 2, 2, 10, 3, 4, 1);
        int s = Check.raster(x, 2, 2, 0, null, null, null);
        // Straight to the right 13 * 5, straight up 14 * 5, across 11 * 7.
        dueSums(x, c, s, 2, 2, 0, 65, 70, 77);
    }

    private static void leastOfAllWays() {
        Check.sentence("each cell gets the least sum over ways of steps");
        CellAlgebra x = new CellAlgebra();
        int c = Check.raster(x, 3, 3, 0, 1000, 0, 0, 1000, 0, 0, 0, 0);
        int s = Check.raster(x, 3, 3, only(9, 0, 1));
        // Round the dear middle all is free; into it each neighbour that is free costs the same.
        dueSums(x, c, s, 3, 3, 0, 5000, 0, 0, 5000, 0, 0, 0, 0);
        int thin = Check.raster(x, 3, 2, 1, 500, 1, 3, 3, 3);
        int left = Check.raster(x, 3, 2, only(6, 0, 1));
        // Two steps across, 4 * 7 each, are less than two straight ones over 500.
        dueSums(x, thin, left, 3, 2, 0, 2505, 56, 20, 28, 58);
    }

    private static void anySeedThatIsNotBlank() {
        Check.sentence("from any cell that is not blank in s");
        CellAlgebra x = new CellAlgebra();
        int c = Check.raster(x, 6, 1, all(6, 2));
        for (int value : new int[] {0, 1, -1, LEAST, GREATEST, 1001}) {
            int s = Check.raster(x, 6, 1, value, null, null, null, null, value);
            dueSums(x, c, s, 6, 1, 0, 20, 40, 40, 20, 0);
        }
    }

    private static void seedsAreNought() {
        Check.sentence("from any cell that is not blank in s");
        CellAlgebra x = new CellAlgebra();
        int c = Check.raster(x, 3, 1, 1000, 0, 7);
        dueSums(x, c, c, 3, 1, 0, 0, 0);
        int every = Check.raster(x, 3, 1, 9, -9, 0);
        dueSums(x, c, every, 3, 1, 0, 0, 0);
    }

    private static void freeSteps() {
        Check.sentence("cells that are blank or below 0 or above 1000 in c are barred");
        CellAlgebra x = new CellAlgebra();
        int c = Check.raster(x, 4, 1, 0, 0, 0, 1);
        int s = Check.raster(x, 4, 1, only(4, 0, 1));
        dueSums(x, c, s, 4, 1, 0, 0, 0, 5);
    }

    private static void dearestSteps() {
        Check.sentence("cells that are blank or below 0 or above 1000 in c are barred");
        CellAlgebra x = new CellAlgebra();
        int c = Check.raster(x, 2, 2, all(4, 1000));
        int s = Check.raster(x, 2, 2, only(4, 3, 1));
        dueSums(x, c, s, 2, 2, 14000, 10000, 10000, 0);
    }

    /** A row of costs 1 whose middle has this cost is reached as far as the middle, or not. */
    private static void dueBar(Integer cost, boolean barred) {
        CellAlgebra x = new CellAlgebra();
        int c = Check.raster(x, 3, 1, 1, cost, 1);
        int s = Check.raster(x, 3, 1, only(3, 0, 1));
        Integer middle = barred ? null : Integer.valueOf((1 + cost) * 5);
        dueSums(x, c, s, 3, 1, 0, middle, barred ? null : Integer.valueOf((1 + cost) * 10));
    }

    private static void barredByBlanks() {
        Check.sentence("cells that are blank [..] in c are barred");
        dueBar(null, true);
        CellAlgebra x = new CellAlgebra();
        x.raster(3, 2);
        int s = Check.raster(x, 3, 2, all(6, 1));
        dueSums(x, 0, s, 3, 2, null, null, null, null, null, null);
    }

    private static void barredBelowNought() {
        Check.sentence("cells that are [..] below 0 [..] in c are barred");
        dueBar(0, false);
        dueBar(1, false);
        dueBar(-1, true);
        dueBar(-1000, true);
        dueBar(LEAST, true);
        dueBar((int) 3000000000L, true);
    }

    private static void barredAboveAThousand() {
        Check.sentence("cells that are [..] above 1000 in c are barred");
        dueBar(999, false);
        dueBar(1000, false);
        dueBar(1001, true);
        dueBar(65536, true);
        dueBar(GREATEST, true);
    }

    private static void barredSeeds() {
        Check.sentence("(also as seeds)");
        for (Integer bar : new Integer[] {null, -1, 1001, LEAST, GREATEST}) {
            CellAlgebra x = new CellAlgebra();
            int c = Check.raster(x, 4, 1, bar, 1, 1, 2);
            int s = Check.raster(x, 4, 1, 1, null, null, null);
            dueSums(x, c, s, 4, 1, null, null, null, null);
            x.put(s, 3, 0, 1);
            dueSums(x, c, s, 4, 1, null, 25, 15, 0);
        }
    }

    private static void unreached() {
        Check.sentence("Barred and unreached cells are blank.");
        CellAlgebra x = new CellAlgebra();
        int c = Check.raster(x, 5, 1, 1, 1, -1, 1, 1);
        int s = Check.raster(x, 5, 1, only(5, 4, 1));
        dueSums(x, c, s, 5, 1, null, null, null, 10, 0);
        Check.due("how many are reached", x.size(x.rasters() - 1, 2), 2);
        int none = x.raster(5, 1);
        dueSums(x, c, none, 5, 1, null, null, null, null, null);
        Check.due("without seeds", x.size(x.rasters() - 1, 2), 0);
    }

    private static void aroundBars() {
        Check.sentence("ways of steps to one of eight neighbours");
        CellAlgebra x = new CellAlgebra();
        // Between two barred cells a step across corners is still one to a neighbour.
        int c = Check.raster(x, 2, 2, 1, null, 1001, 1);
        int s = Check.raster(x, 2, 2, only(4, 0, 1));
        dueSums(x, c, s, 2, 2, 0, null, null, 14);
        int wall = Check.raster(x, 3, 3, 1, -1, 1, 1, -1, 1, 1, 1, 1);
        int seed = Check.raster(x, 3, 3, only(9, 0, 1));
        dueSums(x, wall, seed, 3, 3, 0, null, 48, 10, null, 38, 20, 24, 34);
    }

    private static void noWrapAtTheEdges() {
        Check.sentence("ways of steps to one of eight neighbours");
        CellAlgebra x = new CellAlgebra();
        int c = Check.raster(x, 3, 2, 1, 1, -1, -1, 1, 1);
        int s = Check.raster(x, 3, 2, only(6, 0, 1));
        dueSums(x, c, s, 3, 2, 0, 10, null, null, 14, 24);
        // The last of a row is no neighbour of the first of the next.
        int split = Check.raster(x, 3, 2, null, null, 1, 1, null, null);
        int end = Check.raster(x, 3, 2, only(6, 2, 1));
        dueSums(x, split, end, 3, 2, null, null, 0, null, null, null);
    }

    private static void oneCell() {
        Check.sentence("Barred and unreached cells are blank.");
        CellAlgebra x = new CellAlgebra();
        int c = Check.raster(x, 1, 1, 5);
        int s = Check.raster(x, 1, 1, 5);
        dueSums(x, c, s, 1, 1, 0);
        x.wipe(s, 0, 0);
        dueSums(x, c, s, 1, 1, (Integer) null);
        x.put(s, 0, 0, 1);
        x.put(c, 0, 0, 1001);
        dueSums(x, c, s, 1, 1, (Integer) null);
    }

    private static void largest() {
        Check.sentence("each cell gets the least sum over ways of steps");
        CellAlgebra x = new CellAlgebra();
        x.raster(50, 50);
        Check.due("costs of 1000", Check.work(x, "or(a,1000)"), 1);
        x.put(0, 0, 0, 1);
        Check.due("spread(1, 0)", x.spread(1, 0), 2);
        Check.due("all are reached", x.size(2, 2), 2500);
        Check.due("the far corner", x.cell(2, 49, 49), 49 * 14000);
        Check.due("along the edge", x.cell(2, 49, 0), 49 * 10000);
        Check.due("up the edge", x.cell(2, 0, 49), 49 * 10000);
        Check.due("inside", x.cell(2, 30, 10), 10 * 14000 + 20 * 10000);
        // From every cell at once, and from none.
        Check.due("spread(1, 1)", x.spread(1, 1), 3);
        Check.due("all are seeds", Check.work(x, "sum(d,3)+top(d,3)"), 4);
        Check.due("all sums are 0", x.cell(4, 20, 20), 0);
        Check.due("how many", x.size(3, 2), 2500);
        x.wipe(0, 0, 0);
        Check.due("spread(1, 0)", x.spread(1, 0), 5);
        Check.due("none is reached", x.size(5, 2), 0);
    }

    private static void costsAndSeedsStay() {
        Check.sentence("SPREAD over costs c from seeds s: its number.");
        CellAlgebra x = new CellAlgebra();
        int c = Check.raster(x, 3, 1, 1, null, -5);
        int s = Check.raster(x, 3, 1, null, 4, 6);
        Check.due("spread(0, 1)", x.spread(c, s), 2);
        Check.dueCells("costs", x, c, 3, 1, 1, null, -5);
        Check.dueCells("seeds", x, s, 3, 1, null, 4, 6);
        x.put(c, 2, 0, 5);
        Check.dueCells("sums when costs change later", x, 2, 3, 1, null, null, null);
        dueSums(x, c, s, 3, 1, null, null, 0);
    }

    private static void thereIsNone() {
        Check.sentence("-14, -1 of another size, -12.");
        CellAlgebra x = new CellAlgebra();
        Check.due("of a new object", x.spread(0, 0), -14);
        Check.raster(x, 2, 1, 1, 2);
        Check.raster(x, 1, 2, 3, 4);
        Check.dueFault(x, "a+", 2);
        String before = Check.seen(x);
        for (int none : new int[] {-1, 2, 39, 40, 256, LEAST, GREATEST}) {
            Check.due("spread(" + none + ", 0)", x.spread(none, 0), -14);
            Check.due("spread(0, " + none + ")", x.spread(0, none), -14);
            Check.due("spread of " + none + " twice", x.spread(none, none), -14);
        }
        Check.dueSame("refused spreads", x, before);
    }

    private static void anotherSize() {
        Check.sentence("-1 of another size");
        CellAlgebra x = new CellAlgebra();
        int[][] sizes = {{2, 3}, {3, 2}, {2, 2}, {6, 1}, {1, 6}, {50, 50}, {50, 49}, {49, 50}};
        for (int[] s : sizes) {
            x.raster(s[0], s[1]);
        }
        for (int c = 0; c < sizes.length; c++) {
            for (int s = 0; s < sizes.length; s++) {
                if (c != s) {
                    Check.due("spread(" + c + ", " + s + ")", x.spread(c, s), -1);
                }
            }
        }
        Check.due("rasters()", x.rasters(), sizes.length);
        Check.due("place()", x.place(), -1);
        Check.due("of one size", x.spread(7, 7), sizes.length);
    }

    private static void noRoom() {
        Check.sentence("-14, -1 of another size, -12.");
        CellAlgebra x = new CellAlgebra();
        x.raster(1, 2);
        for (int k = 1; k < 40; k++) {
            x.raster(1, 1);
        }
        Check.due("spread(1, 2)", x.spread(1, 2), -12);
        Check.due("spread(0, 0)", x.spread(0, 0), -12);
        Check.due("spread(0, 1)", x.spread(0, 1), -1);
        Check.due("spread(1, 0)", x.spread(1, 0), -1);
        Check.due("spread(0, 40)", x.spread(0, 40), -14);
        Check.due("spread(-1, 0)", x.spread(-1, 0), -14);
        Check.due("rasters()", x.rasters(), 40);
    }
}

/** Promise 12: least sums of steps over costs. */
public final class SpreadTest {
    public static void main(String[] args) {
        steps();
        barred();
        seeds();
        wrong();
        longWay();
        Check.finish();
    }

    private static void dueSums(CellAlgebra x, int c, int s, int w, int h, Integer... sums) {
        int count = x.rasters();
        Check.due("spread(" + c + ", " + s + ")", x.spread(c, s), count);
        Check.dueCells("spread(" + c + ", " + s + ")", x, count, w, h, sums);
    }

    private static void steps() {
        CellAlgebra x = new CellAlgebra();
        int c = Check.raster(x, 3, 3, 1, 2, 3, 4, 5, 6, 7, 8, 9);
        int s = Check.raster(x, 3, 3, 77, null, null, null, null, null, null, null, null);
        dueSums(x, c, s, 3, 3, 0, 15, 40, 25, 42, 71, 80, 107, 140);
        int flat = Check.raster(x, 3, 3, 0, 0, 0, 0, 0, 0, 0, 0, 0);
        dueSums(x, flat, s, 3, 3, 0, 0, 0, 0, 0, 0, 0, 0, 0);
        int steep = Check.raster(x, 2, 2, 1000, 1000, 1000, 1000);
        int corner = Check.raster(x, 2, 2, null, null, null, -1);
        dueSums(x, steep, corner, 2, 2, 14000, 10000, 10000, 0);
        dueSums(x, steep, steep, 2, 2, 0, 0, 0, 0);
        // Going around is cheaper than the one step straight.
        int hill = Check.raster(x, 3, 2, 0, 900, 0, 1, 1, 1);
        int left = Check.raster(x, 3, 2, 0, null, null, null, null, null);
        dueSums(x, hill, left, 3, 2, 0, 4500, 14, 5, 7, 17);
    }

    private static void barred() {
        CellAlgebra x = new CellAlgebra();
        int c = Check.raster(x, 7, 1, 1, 1000, 1, null, 1, 1, 1);
        int s = Check.raster(x, 7, 1, 5, null, null, null, null, null, null);
        dueSums(x, c, s, 7, 1, 0, 5005, 10010, null, null, null, null);
        x.put(c, 1, 0, 1001);
        dueSums(x, c, s, 7, 1, 0, null, null, null, null, null, null);
        x.put(c, 1, 0, -1);
        dueSums(x, c, s, 7, 1, 0, null, null, null, null, null, null);
        x.put(c, 1, 0, Integer.MIN_VALUE);
        x.put(c, 3, 0, Integer.MAX_VALUE);
        dueSums(x, c, s, 7, 1, 0, null, null, null, null, null, null);
        x.put(c, 0, 0, 1001);
        dueSums(x, c, s, 7, 1, null, null, null, null, null, null, null);
        // A corner may be crossed between two barred cells.
        int gap = Check.raster(x, 2, 2, 1, -1, null, 1);
        int one = Check.raster(x, 2, 2, 0, null, null, null);
        dueSums(x, gap, one, 2, 2, 0, null, null, 14);
    }

    private static void seeds() {
        CellAlgebra x = new CellAlgebra();
        int c = Check.raster(x, 5, 1, 1, 1, 1, 1, 1);
        int s = Check.raster(x, 5, 1, 9, null, null, null, -3);
        dueSums(x, c, s, 5, 1, 0, 10, 20, 10, 0);
        int none = x.raster(5, 1);
        dueSums(x, c, none, 5, 1, null, null, null, null, null);
        dueSums(x, none, s, 5, 1, null, null, null, null, null);
        Check.dueCells("seeds stay", x, s, 5, 1, 9, null, null, null, -3);
        Check.dueCells("costs stay", x, c, 5, 1, 1, 1, 1, 1, 1);
    }

    private static void wrong() {
        CellAlgebra x = new CellAlgebra();
        x.raster(2, 3);
        x.raster(3, 2);
        x.raster(2, 2);
        for (int far : new int[] {-1, 3, 40, Integer.MIN_VALUE, Integer.MAX_VALUE}) {
            Check.due("spread c " + far, x.spread(far, 0), -14);
            Check.due("spread s " + far, x.spread(0, far), -14);
        }
        Check.due("spread(0, 1)", x.spread(0, 1), -1);
        Check.due("spread(0, 2)", x.spread(0, 2), -1);
        Check.due("spread(1, 2)", x.spread(1, 2), -1);
        Check.due("rasters()", x.rasters(), 3);
        Check.due("place()", x.place(), -1);
    }

    // A snake through the largest raster: every second row is a wall with one gap at an end.
    private static void longWay() {
        CellAlgebra x = new CellAlgebra();
        x.raster(50, 50);
        Check.due("dear", Check.work(x, "or(a,1000)"), 1);
        for (int j = 1; j < 8; j += 2) {
            for (int i = 0; i < 50; i++) {
                boolean gap = i == (j % 4 == 1 ? 49 : 0);
                if (!gap) {
                    x.wipe(1, i, j);
                }
            }
        }
        int s = x.raster(50, 50);
        x.put(s, 0, 0, 1);
        Check.due("spread", x.spread(1, s), 3);
        // Each row of 50 has 48 steps straight before the gap, then two across.
        Check.due("row 2", x.cell(3, 48, 2), 48 * 10000 + 2 * 14000);
        Check.due("row 4", x.cell(3, 1, 4), (48 + 47) * 10000 + 4 * 14000);
        Check.due("row 8", x.cell(3, 1, 8), (48 + 47 * 3) * 10000 + 8 * 14000);
    }
}

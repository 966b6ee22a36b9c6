/** Promises 2 and 3: feed and end; and how algebra() uses a text up. */
public final class TrayTest {
    public static void main(String[] args) {
        byteOrder();
        cutting();
        usedUp();
        Check.finish();
    }

    private static int feedBlanks(CellAlgebra x) {
        return x.feed(0x20202020, 0x20202020, 0x20202020, 0x20202020, 0x20202020);
    }

    private static void byteOrder() {
        CellAlgebra x = new CellAlgebra();
        x.raster(1, 1);
        Check.due("feed", x.feed(0x31323334, 0x352b3637, 0x3839302b, 0x31312a31, 0x312b2b61), 20);
        Check.due("algebra", x.algebra(), -1);
        Check.due("place of the second +", x.place(), 18);
        Check.due("feed", x.feed(0x312b3220, 0x2b332020, 0x2b342020, 0x20202b35, 0x20202b61), 20);
        x.put(0, 0, 0, 100);
        Check.due("algebra", x.algebra(), 1);
        Check.due("cell", x.cell(1, 0, 0), 115);
        Check.due("high bits", x.feed(0x6120FF20, 0, 0, 0, 0), 20);
        Check.due("algebra", x.algebra(), -1);
        Check.due("place of byte 255", x.place(), 2);
    }

    private static void cutting() {
        CellAlgebra x = new CellAlgebra();
        Check.raster(x, 1, 1, 5);
        Check.due("end(-1)", x.end(-1), false);
        Check.due("end(least)", x.end(Integer.MIN_VALUE), false);
        Check.due("feed", feedBlanks(x), 20);
        Check.due("end(21)", x.end(21), false);
        Check.due("end(greatest)", x.end(Integer.MAX_VALUE), false);
        Check.due("end(20)", x.end(20), true);
        Check.due("end(7)", x.end(7), true);
        Check.due("end(8) behind it", x.end(8), false);
        Check.due("feed behind it", feedBlanks(x), 27);
        Check.due("end(3)", x.end(3), true);
        Check.due("feed a", x.feed(0x612b3100, 0, 0, 0, 0), 23);
        Check.due("end(6)", x.end(6), true);
        Check.due("algebra", x.algebra(), 1);
        Check.due("cell", x.cell(1, 0, 0), 6);
        Check.due("feed", feedBlanks(x), 20);
        Check.due("end(0)", x.end(0), true);
        Check.due("no text", x.algebra(), -1);
        Check.due("place", x.place(), 0);
    }

    private static void usedUp() {
        CellAlgebra x = new CellAlgebra();
        x.raster(1, 1);
        Check.feed(x, "a");
        Check.due("algebra", x.algebra(), 1);
        Check.due("end(1) behind algebra", x.end(1), false);
        Check.due("algebra of nothing", x.algebra(), -1);
        Check.due("place", x.place(), 0);
        Check.feed(x, "a )");
        Check.due("a fault", x.algebra(), -1);
        Check.due("place", x.place(), 2);
        Check.due("end(1) behind a fault", x.end(1), false);
        Check.due("feed", feedBlanks(x), 20);
    }
}

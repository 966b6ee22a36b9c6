import java.lang.management.ManagementFactory;

/** How many calls an object is used for: what it does to the last of 512, and what it makes. */
public final class LifeTest {
    private static final int CALLS = 512;
    private static final int BLANKS = 0x20202020;

    public static void main(String[] args) {
        longestText();
        lastCallOfEachKind();
        manyTexts();
        objectsApart();
        room();
        Check.finish();
    }

    /** Feeds a text whose length is a multiple of twenty; answers how many calls that took. */
    private static int feedWhole(CellAlgebra x, String text) {
        int calls = 0;
        for (int at = 0; at < text.length(); at += 20) {
            int[] words = new int[5];
            for (int k = 0; k < 20; k++) {
                words[k / 4] = words[k / 4] << 8 | text.charAt(at + k);
            }
            Check.due("feed", x.feed(words[0], words[1], words[2], words[3], words[4]), at + 20);
            calls++;
        }
        return calls;
    }

    private static String filled(String text) {
        return text + " ".repeat((20 - text.length() % 20) % 20);
    }

    private static void longestText() {
        Check.sentence("An object is used for at most 512 calls after it has been made");
        CellAlgebra x = new CellAlgebra();
        x.raster(1, 1);
        x.put(0, 0, 0, 3);
        int feeds = CALLS - 4;
        String text = filled("a" + "+a".repeat(10 * feeds - 1));
        Check.due("calls", feedWhole(x, text), feeds);
        Check.due("algebra(), the 511th", x.algebra(), 1);
        Check.due("cell, the 512th", x.cell(1, 0, 0), 30 * feeds);

        CellAlgebra faulty = new CellAlgebra();
        faulty.raster(50, 50);
        feeds = CALLS - 3;
        Check.due("calls", feedWhole(faulty, " ".repeat(20 * feeds - 1) + ")"), feeds);
        Check.due("algebra(), the 511th", faulty.algebra(), -1);
        Check.due("place(), the 512th", faulty.place(), 20 * feeds - 1);
    }

    private static CellAlgebra usedFor(int calls) {
        CellAlgebra x = new CellAlgebra();
        x.raster(2, 1);
        for (int k = 1; k < calls; k++) {
            int what = k % 6;
            if (what == 0) {
                x.put(0, 0, 0, k);
            } else if (what == 1) {
                x.wipe(0, 1, 0);
            } else if (what == 2) {
                x.cell(0, k, 0);
            } else if (what == 3) {
                x.algebra();
            } else if (what == 4) {
                x.raster(k, -k);
            } else {
                x.spread(k, 0);
            }
        }
        return x;
    }

    private static void lastCallOfEachKind() {
        Check.sentence("An object is used for at most 512 calls after it has been made");
        int before = CALLS - 1;
        Check.due("feed", usedFor(before).feed(0, 0, 0, 0, 0), 20);
        Check.due("end(0)", usedFor(before).end(0), true);
        Check.due("end(1)", usedFor(before).end(1), false);
        Check.due("raster", usedFor(before).raster(50, 50), 1);
        Check.due("put", usedFor(before).put(0, 1, 0, 5), true);
        Check.due("wipe", usedFor(before).wipe(0, 1, 0), true);
        Check.due("cell", usedFor(before).cell(0, 0, 0), 510);
        Check.due("size", usedFor(before).size(0, 2), 1);
        Check.due("rasters", usedFor(before).rasters(), 1);
        Check.due("place", usedFor(before).place(), 0);
        Check.due("spread", usedFor(before).spread(0, 0), 1);
        Check.due("algebra of none", usedFor(before).algebra(), -1);
        CellAlgebra x = usedFor(before - 1);
        x.feed(0x612b3120, BLANKS, BLANKS, BLANKS, BLANKS);
        Check.due("algebra", x.algebra(), 1);
    }

    private static void manyTexts() {
        Check.sentence("a text is used up by each algebra(), whatever it answers");
        CellAlgebra x = new CellAlgebra();
        Check.raster(x, 1, 1, 1);
        // Two calls, then two for each text: 254 texts, of which 39 find room.
        for (int k = 1; k <= 254; k++) {
            Check.due("feed", x.feed(0x612b3120, BLANKS, BLANKS, BLANKS, BLANKS), 20);
            Check.due("algebra() " + k, x.algebra(), k < 40 ? k : -12);
        }
        Check.due("the last one's cell", x.cell(39, 0, 0), 2);
    }

    private static void objectsApart() {
        Check.sentence("No rasters, no bytes.");
        CellAlgebra x = new CellAlgebra();
        CellAlgebra y = new CellAlgebra();
        Check.raster(x, 2, 1, 1, 2);
        Check.due("feed x", x.feed(0x61202020, BLANKS, BLANKS, BLANKS, BLANKS), 20);
        Check.due("y's bytes", y.end(1), false);
        Check.due("y's rasters", y.rasters(), 0);
        Check.due("y's algebra()", y.algebra(), -1);
        Check.due("x's place()", x.place(), -1);
        Check.due("x's algebra()", x.algebra(), 1);
        Check.due("y's place()", y.place(), 0);
        Check.dueCells("x's second", x, 1, 2, 1, 1, 2);
    }

    // Not the document's, but the project's: all calls of a run share 7.3 million elements.
    private static void room() {
        Check.sentence("What a run makes is counted");
        com.sun.management.ThreadMXBean threads =
                (com.sun.management.ThreadMXBean) ManagementFactory.getThreadMXBean();
        String deep = filled("2<1+2*max(0,".repeat(39) + "1<3-a*a" + ")".repeat(39));
        long before = threads.getCurrentThreadAllocatedBytes();
        CellAlgebra x = new CellAlgebra();
        x.raster(50, 50);
        int calls = 1;
        while (calls + 30 < CALLS) {
            calls += feedWhole(x, deep) + 3;
            x.algebra();
            x.spread(0, 0);
            x.raster(50, 50);
        }
        long made = threads.getCurrentThreadAllocatedBytes() - before;
        Check.due("forty of the largest", x.rasters(), 40);
        Check.due(made + " bytes for the dearest run are below 8 million", made < 8000000, true);
    }
}

/** Promises 1 to 3 and the tray's limits: one test for each sentence that names a boundary. */
public final class TrayBoundaryTest {
    private static final int BLANKS = 0x20202020;

    public static void main(String[] args) {
        newObjectHasNoBytes();
        feedCounts();
        feedOrder();
        bytesHaveNoSign();
        trayHoldsSixteenThousand();
        refusedByAFullTray();
        allThatCanBeFed();
        allThatCanBeFedByTexts();
        refusedFeedsDoNotCount();
        onlyTheFirstCount();
        endBelowNought();
        endBeyondTheTray();
        refusedEndsChangeNothing();
        feedsBehindTheEnd();
        usedUpByANumber();
        usedUpByAFault();
        usedUpWithoutRoom();
        Check.finish();
    }

    private static int feedBlanks(CellAlgebra x) {
        return x.feed(BLANKS, BLANKS, BLANKS, BLANKS, BLANKS);
    }

    private static CellAlgebra withFive() {
        CellAlgebra x = new CellAlgebra();
        Check.raster(x, 1, 1, 5);
        return x;
    }

    private static void newObjectHasNoBytes() {
        Check.sentence("No rasters, no bytes.");
        CellAlgebra x = new CellAlgebra();
        Check.due("end(1)", x.end(1), false);
        Check.due("end(0)", x.end(0), true);
        Check.due("algebra()", x.algebra(), -1);
        Check.due("place()", x.place(), 0);
        Check.due("the first feed", feedBlanks(x), 20);
    }

    private static void feedCounts() {
        Check.sentence("how many are in the tray");
        CellAlgebra x = new CellAlgebra();
        for (int k = 1; k <= 60; k++) {
            Check.due("feed " + k, feedBlanks(x), 20 * k);
        }
        Check.due("end(1200)", x.end(1200), true);
        Check.due("end(1)", x.end(1), true);
        Check.due("feed behind one byte", feedBlanks(x), 21);
        Check.due("end(0)", x.end(0), true);
        Check.due("feed behind none", feedBlanks(x), 20);
    }

    private static void feedOrder() {
        Check.sentence("Feeds twenty bytes, the highest of a first, then b, c, d, e");
        CellAlgebra x = withFive();
        for (int place = 0; place < 20; place++) {
            int[] words = {BLANKS, BLANKS, BLANKS, BLANKS, BLANKS};
            int shift = 24 - 8 * (place % 4);
            words[place / 4] = BLANKS & ~(255 << shift) | ')' << shift;
            Check.due("feed", x.feed(words[0], words[1], words[2], words[3], words[4]), 20);
            Check.due("algebra()", x.algebra(), -1);
            Check.due("place of the one ) among blanks", x.place(), place);
        }
    }

    private static void bytesHaveNoSign() {
        Check.sentence("Feeds twenty bytes");
        CellAlgebra x = withFive();
        int[] wholeWords = {0xE1202020, 0x8A202020, 0xA0202020, 0xFFFFFFFF, 0x80000000, 0};
        for (int word : wholeWords) {
            x.feed(word, 0x61202020, BLANKS, BLANKS, BLANKS);
            Check.due("algebra() of " + Integer.toHexString(word), x.algebra(), -1);
            Check.due("place of " + Integer.toHexString(word), x.place(), 0);
        }
    }

    // The limits cannot be reached in 512 calls, so that here objects are used for more.
    private static CellAlgebra fullTray() {
        CellAlgebra x = withFive();
        for (int k = 1; k <= 800; k++) {
            Check.due("feed " + k, feedBlanks(x), 20 * k);
        }
        return x;
    }

    private static void trayHoldsSixteenThousand() {
        Check.sentence("-1 if there would be more than 16000");
        CellAlgebra x = fullTray();
        Check.due("feed 801", feedBlanks(x), -1);
        for (int left = 1; left < 20; left++) {
            Check.due("end", x.end(16000 - left), true);
            Check.due("feed with room for " + left, feedBlanks(x), -1);
        }
        Check.due("end(15980)", x.end(15980), true);
        Check.due("feed with room for 20", feedBlanks(x), 16000);
        Check.due("feed without room", feedBlanks(x), -1);
    }

    private static void refusedByAFullTray() {
        Check.sentence("-1 if there would be more than 16000");
        CellAlgebra x = fullTray();
        Check.due("end(15980)", x.end(15980), true);
        Check.due("feed a", x.feed(0x612b3120, BLANKS, BLANKS, BLANKS, BLANKS), 16000);
        Check.due("feed without room", x.feed(-1, -1, -1, -1, -1), -1);
        Check.due("end(16001)", x.end(16001), false);
        Check.due("end(16000)", x.end(16000), true);
        Check.due("algebra() of what was there", x.algebra(), 1);
        Check.due("its cell", x.cell(1, 0, 0), 6);
        Check.due("feed behind algebra()", feedBlanks(x), 20);
    }

    private static void allThatCanBeFed() {
        Check.sentence("or more than 65536 in all");
        CellAlgebra x = new CellAlgebra();
        for (int k = 1; k <= 3276; k++) {
            Check.due("feed " + k, feedBlanks(x), 20);
            Check.due("end(0)", x.end(0), true);
        }
        Check.due("feed 3277, to 65540", feedBlanks(x), -1);
        Check.due("the tray behind it", x.end(1), false);
        Check.due("feed 3277 again", feedBlanks(x), -1);
    }

    private static void allThatCanBeFedByTexts() {
        Check.sentence("At most 65536 bytes can be fed in all");
        CellAlgebra x = withFive();
        for (int k = 1; k <= 3276; k++) {
            Check.due("feed " + k, feedBlanks(x), 20);
            if (k < 3276) {
                Check.due("algebra()", x.algebra(), -1);
            }
        }
        Check.due("feed 3277, to 65540", feedBlanks(x), -1);
        Check.due("the tray behind it", x.end(20), true);
        Check.due("algebra()", x.algebra(), -1);
        Check.due("place()", x.place(), 20);
        Check.due("feed behind algebra()", feedBlanks(x), -1);
    }

    private static void refusedFeedsDoNotCount() {
        Check.sentence("At most 65536 bytes can be fed in all");
        CellAlgebra x = fullTray();
        for (int k = 0; k < 500; k++) {
            Check.due("feed without room", feedBlanks(x), -1);
        }
        for (int k = 801; k <= 3276; k++) {
            x.end(0);
            Check.due("feed " + k, feedBlanks(x), 20);
        }
        x.end(0);
        Check.due("feed 3277", feedBlanks(x), -1);
    }

    private static void onlyTheFirstCount() {
        Check.sentence("Only the first n bytes of the tray count");
        int[] cuts = {1, 3, 5, 20};
        int[] values = {5, 6, 8, 13};
        for (int k = 0; k < cuts.length; k++) {
            CellAlgebra x = withFive();
            // "a+1+2+5" and blanks
            Check.due("feed", x.feed(0x612b312b, 0x322b3520, BLANKS, BLANKS, BLANKS), 20);
            Check.due("end(" + cuts[k] + ")", x.end(cuts[k]), true);
            Check.due("algebra()", x.algebra(), 1);
            Check.due("cell of the first " + cuts[k], x.cell(1, 0, 0), values[k]);
        }
        CellAlgebra x = withFive();
        Check.due("feed", x.feed(0x61202020, BLANKS, BLANKS, BLANKS, BLANKS), 20);
        Check.due("end(0)", x.end(0), true);
        Check.due("algebra() of none", x.algebra(), -1);
        Check.due("place()", x.place(), 0);
    }

    private static void endBelowNought() {
        Check.sentence("false if n is below 0");
        CellAlgebra x = new CellAlgebra();
        for (int n : new int[] {-1, -20, Integer.MIN_VALUE}) {
            Check.due("end(" + n + ") of an empty tray", x.end(n), false);
        }
        feedBlanks(x);
        for (int n : new int[] {-1, -20, Integer.MIN_VALUE}) {
            Check.due("end(" + n + ") of twenty", x.end(n), false);
        }
        Check.due("end(0)", x.end(0), true);
    }

    private static void endBeyondTheTray() {
        Check.sentence("or more than it has");
        CellAlgebra x = new CellAlgebra();
        Check.due("end(1) of an empty tray", x.end(1), false);
        feedBlanks(x);
        feedBlanks(x);
        Check.due("end(41)", x.end(41), false);
        Check.due("end(greatest)", x.end(Integer.MAX_VALUE), false);
        Check.due("end(40)", x.end(40), true);
        Check.due("end(39)", x.end(39), true);
        Check.due("end(40) behind end(39)", x.end(40), false);
        Check.due("end(39) again", x.end(39), true);
    }

    private static void refusedEndsChangeNothing() {
        Check.sentence("false if n is below 0 or more than it has.");
        CellAlgebra x = withFive();
        x.feed(0x612b3220, BLANKS, BLANKS, BLANKS, BLANKS);
        Check.due("end(-1)", x.end(-1), false);
        Check.due("end(21)", x.end(21), false);
        Check.due("feed", feedBlanks(x), 40);
        Check.due("end(41)", x.end(41), false);
        Check.due("algebra()", x.algebra(), 1);
        Check.due("cell", x.cell(1, 0, 0), 7);
    }

    private static void feedsBehindTheEnd() {
        Check.sentence("Only the first n bytes of the tray count");
        CellAlgebra x = withFive();
        x.feed(0x612b2929, -1, -1, -1, -1);
        Check.due("end(2)", x.end(2), true);
        Check.due("feed behind a+", x.feed(0x37202020, BLANKS, BLANKS, BLANKS, BLANKS), 22);
        Check.due("algebra() of a+7", x.algebra(), 1);
        Check.due("cell", x.cell(1, 0, 0), 12);
    }

    private static void dueUsedUp(CellAlgebra x) {
        Check.due("end(1)", x.end(1), false);
        Check.due("algebra() again", x.algebra(), -1);
        Check.due("its place", x.place(), 0);
        Check.due("feed", feedBlanks(x), 20);
    }

    private static void usedUpByANumber() {
        Check.sentence("a text is used up by each algebra(), whatever it answers");
        CellAlgebra x = withFive();
        Check.due("algebra()", Check.work(x, "a"), 1);
        dueUsedUp(x);
    }

    private static void usedUpByAFault() {
        Check.sentence("a text is used up by each algebra(), whatever it answers");
        CellAlgebra x = withFive();
        Check.due("algebra()", Check.work(x, "a a"), -1);
        Check.due("place()", x.place(), 2);
        dueUsedUp(x);
    }

    private static void usedUpWithoutRoom() {
        Check.sentence("a text is used up by each algebra(), whatever it answers");
        CellAlgebra x = withFive();
        for (int k = 1; k < 40; k++) {
            x.raster(1, 1);
        }
        Check.due("algebra()", Check.work(x, "a"), -12);
        dueUsedUp(x);
    }
}

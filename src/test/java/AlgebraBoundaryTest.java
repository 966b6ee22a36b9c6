/** Promise 10 and ALGEBRA, what texts mean: one test for each sentence that names a boundary. */
public final class AlgebraBoundaryTest {
    private static final int LEAST = Integer.MIN_VALUE;
    private static final int GREATEST = Integer.MAX_VALUE;

    public static void main(String[] args) {
        blankBytes();
        numbers();
        lettersAndRasters();
        sumsWrap();
        productsWrap();
        signsWrap();
        windowSumsWrap();
        comparing();
        cutting();
        leastByMinusOne();
        byNought();
        outOfABlankOnTheLeft();
        outOfABlankOnTheRight();
        outOfOneBlank();
        isBlank();
        orOfBlanks();
        choiceNeedsItsCondition();
        choiceNeedsWhatItTakes();
        anyIntIsTaken();
        windowOfTheCellItself();
        windowReaches();
        windowsAtTheEdges();
        windowsSkipBlanks();
        emptyWindows();
        shifts();
        beyondTheEdge();
        farthestShifts();
        partsForAllCells();
        deepestParts();
        resultHasTheRastersSize();
        Check.finish();
    }

    private static CellAlgebra with(int w, int h, Integer... cells) {
        CellAlgebra x = new CellAlgebra();
        Check.raster(x, w, h, cells);
        return x;
    }

    private static void blankBytes() {
        Check.sentence("blanks, 32 and 10, may stand anywhere but in numbers and words");
        CellAlgebra x = with(1, 1, 6);
        for (String b : new String[] {" ", "\n", " \n", "\n\n  \n"}) {
            Check.dueText(x, spread(b, "a", "+", "1"), 1, 1, 7);
            Check.dueText(x, spread(b, "min", "(", "a", ",", "-", "4", ")"), 1, 1, -4);
            Check.dueText(x, spread(b, "at", "(", "a", ",", "-0", ",", "0", ")"), 1, 1, 6);
            Check.dueText(x, spread(b, "sum", "(", "a", ",", "3", ")"), 1, 1, 6);
            Check.dueText(x, spread(b, "a", "<", "=", "6", "?", "(", "8", ")", ":", "9"), 1, 1, 8);
            Check.dueText(x, spread(b, "a", ">", "=", "7", "?", "8", ":", "9", "%", "5"), 1, 1, 4);
        }
        for (int other : new int[] {0, 9, 11, 12, 13, 31, 33, 127, 128, 138, 160, 255}) {
            Check.dueFault(x, "a" + (char) other, 1);
        }
        Check.dueFault(x, "1 2+a", 2);
        Check.dueFault(x, "a+1\n2", 4);
        Check.dueFault(x, "m in(a,a)", 0);
        Check.dueFault(x, "mi\nn(a,a)", 0);
    }

    private static String spread(String blanks, String... parts) {
        return blanks + String.join(blanks, parts) + blanks;
    }

    private static void numbers() {
        Check.sentence("number (1 to 9 digits)");
        CellAlgebra x = with(1, 1, 0);
        Check.dueText(x, "a+0", 1, 1, 0);
        Check.dueText(x, "a+7", 1, 1, 7);
        Check.dueText(x, "a+00", 1, 1, 0);
        Check.dueText(x, "a+000000000", 1, 1, 0);
        Check.dueText(x, "a+000000019", 1, 1, 19);
        Check.dueText(x, "a+123456789", 1, 1, 123456789);
        Check.dueText(x, "a+999999999", 1, 1, 999999999);
        Check.dueText(x, "a-999999999", 1, 1, -999999999);
        Check.dueFault(x, "a+1000000000", 11);
    }

    private static void lettersAndRasters() {
        Check.sentence("a .. j (raster 0 .. 9, all of one size)");
        CellAlgebra x = new CellAlgebra();
        for (int k = 0; k < 12; k++) {
            Check.raster(x, 1, 1, 100 + k);
        }
        for (int k = 0; k < 10; k++) {
            Check.dueText(x, "" + (char) ('a' + k), 1, 1, 100 + k);
        }
        Check.dueFault(x, "k", 0);
        Check.dueFault(x, "a+l", 2);
        Check.dueFault(x, "z", 0);
    }

    private static void sumsWrap() {
        Check.sentence("All ints wrap");
        CellAlgebra x = with(2, 1, LEAST, GREATEST);
        Check.dueText(x, "a+1", 2, 1, LEAST + 1, LEAST);
        Check.dueText(x, "1+a", 2, 1, LEAST + 1, LEAST);
        Check.dueText(x, "a-1", 2, 1, GREATEST, GREATEST - 1);
        Check.dueText(x, "0-a", 2, 1, LEAST, -GREATEST);
        Check.dueText(x, "a+a", 2, 1, 0, -2);
        Check.dueText(x, "a+a+a", 2, 1, LEAST, GREATEST - 2);
        Check.dueText(x, "a-a-a", 2, 1, LEAST, -GREATEST);
        CellAlgebra bits = with(2, 1, 1500000000, 2000000000);
        // The sums have the bits of 3000000000 and 4000000000, but are ints.
        Check.dueText(bits, "a+a", 2, 1, (int) 3000000000L, (int) 4000000000L);
        Check.dueText(bits, "blank(a+a)", 2, 1, 0, 0);
        Check.dueText(bits, "or(a+a,1)", 2, 1, (int) 3000000000L, (int) 4000000000L);
    }

    private static void productsWrap() {
        Check.sentence("All ints wrap");
        CellAlgebra x = with(3, 1, LEAST, GREATEST, 65536);
        Check.dueText(x, "a*a", 3, 1, 0, 1, 0);
        Check.dueText(x, "a*-1", 3, 1, LEAST, -GREATEST, -65536);
        Check.dueText(x, "a*2", 3, 1, 0, -2, 131072);
        Check.dueText(x, "a*32768", 3, 1, 0, -32768, LEAST);
        Check.dueText(x, "a*999999999", 3, 1, LEAST, GREATEST * 999999999, 65536 * 999999999);
        Check.dueText(x, "a*3*3", 3, 1, LEAST, GREATEST * 9, 65536 * 9);
    }

    private static void signsWrap() {
        Check.sentence("All ints wrap");
        CellAlgebra x = with(3, 1, LEAST, GREATEST, LEAST + 1);
        Check.dueText(x, "-a", 3, 1, LEAST, -GREATEST, GREATEST);
        Check.dueText(x, "--a", 3, 1, LEAST, GREATEST, LEAST + 1);
        Check.dueText(x, "abs(a)", 3, 1, LEAST, GREATEST, GREATEST);
        Check.dueText(x, "-abs(a)", 3, 1, LEAST, -GREATEST, -GREATEST);
        CellAlgebra small = with(3, 1, -1, 0, 1);
        Check.dueText(small, "-a", 3, 1, 1, 0, -1);
        Check.dueText(small, "abs(a)", 3, 1, 1, 0, 1);
    }

    private static void windowSumsWrap() {
        Check.sentence("All ints wrap");
        CellAlgebra x = with(2, 2, GREATEST, 1, GREATEST, GREATEST);
        Check.dueText(x, "sum(a,1)", 2, 2, 0x7FFFFFFE, 0x7FFFFFFE, 0x7FFFFFFE, 0x7FFFFFFE);
        CellAlgebra row = with(2, 1, LEAST, LEAST);
        Check.dueText(row, "sum(a,1)", 2, 1, 0, 0);
        CellAlgebra bits = with(1, 2, 1500000000, 1500000000);
        Check.dueText(bits, "sum(a,1)", 1, 2, (int) 3000000000L, (int) 3000000000L);
        Check.dueText(bits, "sum(sum(a,1),1)", 1, 2, 1705032704, 1705032704);
    }

    private static void comparing() {
        Check.sentence("comparing gives 1 or 0");
        CellAlgebra x = with(5, 1, LEAST, -1, 0, 1, GREATEST);
        Check.dueText(x, "a<0", 5, 1, 1, 1, 0, 0, 0);
        Check.dueText(x, "a<=0", 5, 1, 1, 1, 1, 0, 0);
        Check.dueText(x, "a>0", 5, 1, 0, 0, 0, 1, 1);
        Check.dueText(x, "a>=0", 5, 1, 0, 0, 1, 1, 1);
        Check.dueText(x, "a=0", 5, 1, 0, 0, 1, 0, 0);
        Check.dueText(x, "a#0", 5, 1, 1, 1, 0, 1, 1);
        // The least and the greatest are too far apart to be told by their difference.
        Check.raster(x, 5, 1, GREATEST, LEAST, LEAST, LEAST, LEAST);
        int b = x.rasters() - 1;
        String letter = "" + (char) ('a' + b);
        Check.dueText(x, "a<" + letter, 5, 1, 1, 0, 0, 0, 0);
        Check.dueText(x, "a<=" + letter, 5, 1, 1, 0, 0, 0, 0);
        Check.dueText(x, "a>" + letter, 5, 1, 0, 1, 1, 1, 1);
        Check.dueText(x, "a>=" + letter, 5, 1, 0, 1, 1, 1, 1);
        Check.dueText(x, "min(a," + letter + ")", 5, 1, LEAST, LEAST, LEAST, LEAST, LEAST);
        Check.dueText(x, "max(a," + letter + ")", 5, 1, GREATEST, -1, 0, 1, GREATEST);
    }

    private static void cutting() {
        Check.sentence("/ and % cut");
        CellAlgebra x = with(6, 1, 7, -7, 1, -1, 0, LEAST);
        Check.dueText(x, "a/2", 6, 1, 3, -3, 0, 0, 0, -1073741824);
        Check.dueText(x, "a/-2", 6, 1, -3, 3, 0, 0, 0, 1073741824);
        Check.dueText(x, "a%2", 6, 1, 1, -1, 1, -1, 0, 0);
        Check.dueText(x, "a%-2", 6, 1, 1, -1, 1, -1, 0, 0);
        Check.dueText(x, "a/3", 6, 1, 2, -2, 0, 0, 0, -715827882);
        Check.dueText(x, "a%3", 6, 1, 1, -1, 1, -1, 0, -2);
    }

    private static void leastByMinusOne() {
        Check.sentence("the least by -1 is itself, 0");
        CellAlgebra x = with(3, 1, LEAST, LEAST + 1, GREATEST);
        Check.dueText(x, "a/-1", 3, 1, LEAST, GREATEST, -GREATEST);
        Check.dueText(x, "a%-1", 3, 1, 0, 0, 0);
        Check.dueText(x, "a/(0-1)", 3, 1, LEAST, GREATEST, -GREATEST);
        Check.dueText(x, "a/1", 3, 1, LEAST, LEAST + 1, GREATEST);
    }

    private static void byNought() {
        Check.sentence("by 0 it is blank");
        CellAlgebra x = with(4, 1, 5, 0, LEAST, -1);
        Check.dueText(x, "a/0", 4, 1, null, null, null, null);
        Check.dueText(x, "a%0", 4, 1, null, null, null, null);
        Check.dueText(x, "10/a", 4, 1, 2, null, 0, -10);
        Check.dueText(x, "10%a", 4, 1, 0, null, 10, 0);
        Check.dueText(x, "0/a", 4, 1, 0, null, 0, 0);
        Check.dueText(x, "a/(a-a)", 4, 1, null, null, null, null);
        Check.dueText(x, "blank(a/a)", 4, 1, 0, 1, 0, 0);
        Check.dueText(x, "a%a*0", 4, 1, 0, null, 0, 0);
    }

    private static final String[] TWO_SIDED = {"+", "-", "*", "/", "%", "<", "<=", ">", ">=", "=",
        "#"};

    private static void outOfABlankOnTheLeft() {
        Check.sentence("What is worked out of a blank is blank");
        CellAlgebra x = with(2, 1, null, 1);
        for (String sign : TWO_SIDED) {
            Check.due("algebra()", Check.work(x, "a" + sign + "1"), x.rasters() - 1);
            Check.due("a" + sign + "1", x.cell(x.rasters() - 1, 0, 0), Check.BLANK);
            Check.due("not of 1", x.cell(x.rasters() - 1, 1, 0) == Check.BLANK, false);
        }
        Check.dueText(x, "min(a,1)", 2, 1, null, 1);
        Check.dueText(x, "max(a,1)", 2, 1, null, 1);
    }

    private static void outOfABlankOnTheRight() {
        Check.sentence("What is worked out of a blank is blank");
        CellAlgebra x = with(2, 1, null, 1);
        for (String sign : TWO_SIDED) {
            Check.due("algebra()", Check.work(x, "0" + sign + "a"), x.rasters() - 1);
            Check.due("0" + sign + "a", x.cell(x.rasters() - 1, 0, 0), Check.BLANK);
            Check.due("not of 1", x.cell(x.rasters() - 1, 1, 0) == Check.BLANK, false);
        }
        Check.dueText(x, "min(1,a)", 2, 1, null, 1);
        Check.dueText(x, "max(1,a)", 2, 1, null, 1);
        Check.dueText(x, "a=a", 2, 1, null, 1);
        Check.dueText(x, "a*0", 2, 1, null, 0);
    }

    private static void outOfOneBlank() {
        Check.sentence("What is worked out of a blank is blank");
        CellAlgebra x = with(2, 1, null, -3);
        Check.dueText(x, "a", 2, 1, null, -3);
        Check.dueText(x, "(a)", 2, 1, null, -3);
        Check.dueText(x, "-a", 2, 1, null, 3);
        Check.dueText(x, "abs(a)", 2, 1, null, 3);
        Check.dueText(x, "at(a,0,0)", 2, 1, null, -3);
    }

    private static void isBlank() {
        Check.sentence("blank(x) is 1 if x is, else 0");
        CellAlgebra x = with(4, 1, null, 0, -1, (int) 3000000000L);
        Check.dueText(x, "blank(a)", 4, 1, 1, 0, 0, 0);
        Check.dueText(x, "blank(blank(a))", 4, 1, 0, 0, 0, 0);
        Check.dueText(x, "blank(1/a)", 4, 1, 1, 1, 0, 0);
        Check.dueText(x, "blank(at(a,1,0))", 4, 1, 0, 0, 0, 1);
        Check.dueText(x, "blank(1)*a", 4, 1, null, 0, 0, 0);
    }

    private static void orOfBlanks() {
        Check.sentence("or(x, y) is y if x is blank");
        CellAlgebra x = with(4, 1, null, null, 0, 3);
        Check.raster(x, 4, 1, null, 8, null, 9);
        Check.dueText(x, "or(a,b)", 4, 1, null, 8, 0, 3);
        Check.dueText(x, "or(b,a)", 4, 1, null, 8, 0, 9);
        Check.dueText(x, "or(a,1/0)", 4, 1, null, null, 0, 3);
        Check.dueText(x, "or(1/0,b)", 4, 1, null, 8, null, 9);
        Check.dueText(x, "or(a,0)", 4, 1, 0, 0, 0, 3);
        Check.dueText(x, "or(or(a,b),-1)", 4, 1, -1, 8, 0, 3);
    }

    private static void choiceNeedsItsCondition() {
        Check.sentence("c ? x : y needs just c and what it takes (c not 0: x)");
        CellAlgebra x = with(2, 1, null, 1);
        Check.dueText(x, "a?5:6", 2, 1, null, 5);
        Check.dueText(x, "a=1?5:5", 2, 1, null, 5);
        Check.dueText(x, "1/0?a:a", 2, 1, null, null);
    }

    private static void choiceNeedsWhatItTakes() {
        Check.sentence("c ? x : y needs just c and what it takes (c not 0: x)");
        CellAlgebra x = with(3, 1, 0, 1, 2);
        Check.raster(x, 3, 1, null, 7, null);
        Check.dueText(x, "a?b:4", 3, 1, 4, 7, null);
        Check.dueText(x, "a?4:b", 3, 1, null, 4, 4);
        Check.dueText(x, "a?9/a:-1", 3, 1, -1, 9, 4);
        Check.dueText(x, "a=0?-1:9/a", 3, 1, -1, 9, 4);
        Check.dueText(x, "a?1/0:3", 3, 1, 3, null, null);
    }

    private static void anyIntIsTaken() {
        Check.sentence("(c not 0: x)");
        CellAlgebra x = with(6, 1, 0, 1, -1, LEAST, GREATEST, 256);
        Check.dueText(x, "a?5:6", 6, 1, 6, 5, 5, 5, 5, 5);
        Check.dueText(x, "a-1?5:6", 6, 1, 5, 6, 5, 5, 5, 5);
        Check.dueText(x, "a<0?5:a=0?6:7", 6, 1, 6, 7, 5, 5, 7, 7);
    }

    private static void windowOfTheCellItself() {
        Check.sentence("(with the cell itself)");
        CellAlgebra x = with(3, 1, 4, null, -6);
        for (String name : new String[] {"sum", "top", "low"}) {
            Check.dueText(x, name + "(a,0)", 3, 1, 4, null, -6);
        }
        CellAlgebra one = with(1, 1, 9);
        for (String name : new String[] {"sum", "top", "low"}) {
            for (int k = 0; k <= 3; k++) {
                Check.dueText(one, name + "(a," + k + ")", 1, 1, 9);
            }
        }
    }

    /** In a raster of 9 by 9 with one cell in the middle, who has it in a window of k? */
    private static void windowReaches() {
        Check.sentence("at most k away in each direction");
        for (String name : new String[] {"sum", "top", "low"}) {
            for (int k = 0; k <= 3; k++) {
                CellAlgebra x = new CellAlgebra();
                x.raster(9, 9);
                x.put(0, 4, 4, -5);
                int r = Check.work(x, name + "(a," + k + ")");
                Check.due("how many", x.size(r, 2), (2 * k + 1) * (2 * k + 1));
                for (int cell = 0; cell < 81; cell++) {
                    int away = Math.max(Math.abs(cell % 9 - 4), Math.abs(cell / 9 - 4));
                    long want = away <= k ? -5 : Check.BLANK;
                    Check.due(name + " " + k + " at " + cell, x.cell(r, cell % 9, cell / 9), want);
                }
            }
        }
    }

    private static void windowsAtTheEdges() {
        Check.sentence("of all cells that are not blank and at most k away in each direction");
        CellAlgebra x = new CellAlgebra();
        x.raster(50, 50);
        Check.due("ones", Check.work(x, "or(a,1)"), 1);
        for (int k = 0; k <= 3; k++) {
            int r = Check.work(x, "sum(b," + k + ")");
            int side = 2 * k + 1;
            Check.due("a corner", x.cell(r, 0, 0), (k + 1) * (k + 1));
            Check.due("the far corner", x.cell(r, 49, 49), (k + 1) * (k + 1));
            Check.due("the left edge", x.cell(r, 0, 25), (k + 1) * side);
            Check.due("the upper edge", x.cell(r, 25, 49), (k + 1) * side);
            Check.due("just inside", x.cell(r, 3, 46), side * side);
            Check.due("beside an edge", x.cell(r, 49, 48), (k + 1) * Math.min(side, k + 2));
        }
        CellAlgebra narrow = with(1, 4, 1, 10, 100, 1000);
        Check.dueText(narrow, "sum(a,2)", 1, 4, 111, 1111, 1111, 1110);
        Check.dueText(narrow, "sum(a,3)", 1, 4, 1111, 1111, 1111, 1111);
    }

    private static void windowsSkipBlanks() {
        Check.sentence("of all cells that are not blank");
        CellAlgebra x = with(3, 1, -2, null, -8);
        Check.dueText(x, "sum(a,1)", 3, 1, -2, -10, -8);
        Check.dueText(x, "top(a,1)", 3, 1, -2, -2, -8);
        Check.dueText(x, "low(a,1)", 3, 1, -2, -8, -8);
        CellAlgebra far = with(3, 1, LEAST, null, GREATEST);
        Check.dueText(far, "top(a,1)", 3, 1, LEAST, GREATEST, GREATEST);
        Check.dueText(far, "low(a,1)", 3, 1, LEAST, LEAST, GREATEST);
    }

    private static void emptyWindows() {
        Check.sentence("none: blank");
        CellAlgebra x = with(6, 1, 0, null, null, null, null, null);
        for (String name : new String[] {"sum", "top", "low"}) {
            Check.dueText(x, name + "(a,0)", 6, 1, 0, null, null, null, null, null);
            Check.dueText(x, name + "(a,3)", 6, 1, 0, 0, 0, 0, null, null);
            Check.dueText(x, name + "(1/a,3)", 6, 1, null, null, null, null, null, null);
        }
    }

    private static void shifts() {
        Check.sentence("at: the cell dx to the right and dy up");
        CellAlgebra x = with(3, 3, 1, 2, 3, 4, 5, 6, 7, 8, 9);
        Check.dueText(x, "at(a,0,0)", 3, 3, 1, 2, 3, 4, 5, 6, 7, 8, 9);
        Check.dueText(x, "at(a,1,0)", 3, 3, 2, 3, null, 5, 6, null, 8, 9, null);
        Check.dueText(x, "at(a,-1,0)", 3, 3, null, 1, 2, null, 4, 5, null, 7, 8);
        Check.dueText(x, "at(a,0,1)", 3, 3, 4, 5, 6, 7, 8, 9, null, null, null);
        Check.dueText(x, "at(a,0,-1)", 3, 3, null, null, null, 1, 2, 3, 4, 5, 6);
        Check.dueText(x, "at(a,2,-2)", 3, 3, null, null, null, null, null, null, 3, null, null);
    }

    private static void beyondTheEdge() {
        Check.sentence("blank beyond the edge");
        CellAlgebra x = with(2, 2, 1, 2, 3, 4);
        String[] beyond = {"2,0", "-2,0", "0,2", "0,-2", "2,-2", "50,50", "-50,-50", "-50,50",
            "0,50", "50,0", "3,-1"};
        for (String by : beyond) {
            Check.dueText(x, "at(a," + by + ")", 2, 2, null, null, null, null);
        }
        Check.dueText(x, "at(7,1,0)*1+0*a", 2, 2, 7, null, 7, null);
        Check.dueText(x, "blank(at(a,1,1))", 2, 2, 0, 1, 1, 1);
        Check.dueText(x, "at(blank(a),1,1)", 2, 2, 0, null, null, null);
    }

    private static void farthestShifts() {
        Check.sentence("from -50 to 50");
        CellAlgebra x = new CellAlgebra();
        x.raster(50, 50);
        x.put(0, 49, 0, 1);
        x.put(0, 0, 49, 2);
        int[][] shifts = {{49, -49, 0, 49, 1}, {-49, 49, 49, 0, 2}};
        for (int[] s : shifts) {
            int r = Check.work(x, "at(a," + s[0] + "," + s[1] + ")");
            Check.due("its only cell", x.cell(r, s[2], s[3]), s[4]);
            Check.due("how many", x.size(r, 2), 1);
        }
        for (String by : new String[] {"50,0", "-50,0", "0,50", "0,-50", "50,-50", "-050,0050"}) {
            int r = Check.work(x, "at(a," + by + ")");
            Check.due("none of " + by, x.size(r, 2), 0);
        }
    }

    private static void partsForAllCells() {
        Check.sentence("(so a blank or an error of one cell is that cell's alone)");
        CellAlgebra x = with(3, 1, 0, 2, 4);
        Check.dueText(x, "8/a", 3, 1, null, 4, 2);
        Check.dueText(x, "sum(8/a,1)", 3, 1, 4, 6, 6);
        Check.dueText(x, "at(8/a,-1,0)", 3, 1, null, null, 4);
        Check.dueText(x, "at(8/a,1,0)", 3, 1, 4, 2, null);
        // A choice's sides are worked out where they are not taken too: windows see them there.
        Check.dueText(x, "a=0?sum(8/a,1):-1", 3, 1, 4, -1, -1);
        Check.dueText(x, "sum(a=2?1/0:a,1)", 3, 1, 0, 4, 4);
    }

    private static void deepestParts() {
        Check.sentence("at most 40");
        CellAlgebra x = with(3, 1, 1, 2, null);
        // Each "2<1+2*max(0,x)" is x where x is 0 or 1, and has four values wait for x.
        String waiting = "2<1+2*max(0,".repeat(39) + "1<3-a*a" + ")".repeat(39);
        Check.dueText(x, waiting, 3, 1, 1, 0, null);
        Check.dueText(x, "-".repeat(39) + "a", 3, 1, -1, -2, null);
        Check.dueText(x, "1+(".repeat(39) + "a" + ")".repeat(39), 3, 1, 40, 41, null);
        Check.dueText(x, "a-(".repeat(39) + "a" + ")".repeat(39), 3, 1, 0, 0, null);
        Check.dueText(x, "a=2?5:".repeat(39) + "6", 3, 1, 6, 5, null);
        Check.dueText(x, "or(".repeat(39) + "a" + ",9)".repeat(39), 3, 1, 1, 2, 9);
        Check.dueText(x, waiting, 3, 1, 1, 0, null);
    }

    private static void resultHasTheRastersSize() {
        Check.sentence("A raster by the tray's text: its number.");
        CellAlgebra x = new CellAlgebra();
        x.raster(50, 1);
        x.raster(1, 50);
        Check.due("a", Check.work(x, "1+a"), 2);
        Check.due("its w", x.size(2, 0), 50);
        Check.due("its h", x.size(2, 1), 1);
        Check.due("b", Check.work(x, "blank(b)"), 3);
        Check.due("its w", x.size(3, 0), 1);
        Check.due("its h", x.size(3, 1), 50);
        Check.due("its cells", x.size(3, 2), 50);
    }
}

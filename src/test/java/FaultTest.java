/** Promises 10 and 11: where a text has its first fault. */
public final class FaultTest {
    public static void main(String[] args) {
        endings();
        strangers();
        words();
        numbers();
        arguments();
        rasters();
        depth();
        latest();
        Check.finish();
    }

    /** Rasters a and b of one size, c of another; no more. */
    private static CellAlgebra three() {
        CellAlgebra x = new CellAlgebra();
        x.raster(2, 3);
        x.raster(2, 3);
        x.raster(3, 2);
        return x;
    }

    private static void faults(Object... textsAndPlaces) {
        CellAlgebra x = three();
        for (int k = 0; k < textsAndPlaces.length; k += 2) {
            Check.dueFault(x, (String) textsAndPlaces[k], (Integer) textsAndPlaces[k + 1]);
        }
    }

    private static void endings() {
        faults("", 0, "  \n", 3, "a+", 2, "a + ", 4, "-", 1, "(", 1, "(a", 2, "(a ", 3,
                "a<", 2, "a<=", 3, "a?", 2, "a?b", 3, "a?b:", 4, "min(", 4, "min(a", 5,
                "min(a,", 6, "min(a,b", 7, "sum(a", 5, "sum(a,", 6, "sum(a,1", 7, "at(a,", 5,
                "at(a,-", 6, "at(a,1", 6, "at(a,1,", 7, "at(a,1,-", 8, "at(a,1,1", 8, "1", 1,
                "(1+2)", 5, "1 ", 2, "min(1,2)", 8, "1?2:3", 5);
    }

    private static void strangers() {
        faults(")", 0, "a)", 1, "a b", 2, "a 1", 2, "1 2", 2, "1 a", 2, "1a", 1, "a1", 1,
                "a(b)", 1, "(a)b", 3, "(a)(b)", 3, "a++b", 2, "+a", 0, "*a", 0, "a*/b", 2,
                "a<b<a", 3, "a=b#a", 3, "a<=b>=a", 4, "a==b", 2, "a=<b", 2, "a<>b", 2, "a<==b", 3,
                "a:b", 1, "a?b,a", 3, "a?b)", 3, "(a?b)", 4, "a?b:a:b", 5, "a,b", 1, "()", 1,
                "(a,b)", 2, "a\tb", 1, "a\u0000", 1, "\u00e1", 0, "a+\u00ff", 2, "A", 0, "a!b", 1,
                "a&b", 1, "a\r", 1, "a-?", 2, "1?a:b)", 5, "?", 0, "a??b", 2, "a?:b", 2,
                "a<b?a<b<a:b", 7, "-+a", 1, "a.5", 1, "a_b", 1, "{a}", 0, "`", 0, "a+@", 2, "/", 0);
    }

    private static void words() {
        faults("k", 0, "z", 0, "az", 0, "aa", 0, "a+k", 2, "ab", 0, "a+ab", 2, "mi", 0, "min", 0, "a+min", 2,
                "min a", 0, "  min a", 2, "minn(a,b)", 0, "mina(a,b)", 0, "amin(a,b)", 0,
                "mi n(a,b)", 0, "a min(a,b)", 2, "sum", 0, "sum  ", 0, "at+1", 0, "or", 0,
                "blank", 0, "blan(a)", 0, "blanks(a)", 0, "blank)", 0, "abs-a", 0, "o(a)", 0,
                "lows(a,1)", 0, "tops", 0, "Min(a,b)", 0, "mIn(a,b)", 0, "min1(a,b)", 0,
                "max[a,b]", 0, "ax(a,b)", 0, "j", 0, "d", 0, "abs", 0, "blank\t(a)", 0,
                "abcdefghijklmnopqrstuvwxyz", 0, "a + bc", 4);
    }

    private static void numbers() {
        faults("1234567890", 9, "a+1234567890", 11, "0000000000", 9, "a+12345678901", 11,
                "a+123456789 1", 12, "1 234567890+a", 2, "999999999", 9);
    }

    private static void arguments() {
        faults("min(a)", 5, "min(a,b,a)", 7, "abs(a,b)", 5, "blank(a,1)", 7, "or(a)", 4,
                "min()", 4, "abs()", 4, "sum(a)", 5, "sum(a,4)", 6, "sum(a,10)", 6,
                "sum(a,  99)", 8, "sum(a,-1)", 6, "sum(a,b)", 6, "sum(a,(1))", 6, "sum(a,1+1)", 7,
                "sum(a,1,1)", 7, "sum(a,)", 6, "sum(a,4", 6, "top(a,4)", 6, "low(a,4)", 6,
                "top(a,1 2)", 8, "at(a,51,0)", 5, "at(a,-51,0)", 5, "at(a,0,51)", 7,
                "at(a,0,-51)", 7, "at(a,0, -51)", 8, "at(a,- 1,0)", 6, "at(a,--1,0)", 6,
                "at(a,+1,0)", 5, "at(a,b,0)", 5, "at(a,1)", 6, "at(a,1,2,3)", 8, "at(a)", 4,
                "at(a,1,)", 7, "at(a,-,1)", 6, "at(a,1 0,0)", 7, "at(a,1,0+1)", 8,
                "at(a,51,51)", 5, "sum(a,0000000000)", 15, "at(a,-0000000000,0)", 15,
                "sum(a,1234567890)", 6, "at(a,-1234567890,0)", 5, "at(a,99", 5);
    }

    private static void rasters() {
        faults("a+c", 2, "c+a", 2, "c+c*b", 4, "d", 0, "a+d", 2, "a+j", 2, "c+d", 2,
                "a+c+d", 2, "a+d+c", 2, "a+c)", 2, "a)+c", 1, "1+2+d", 4, "sum(c,1)+a", 9,
                "sum(a,9)+c", 6, "a?c:b", 2, "min(c,a)", 6);
        CellAlgebra none = new CellAlgebra();
        Check.dueFault(none, "a", 0);
        Check.dueFault(none, "1", 1);
        CellAlgebra x = three();
        Check.due("c alone", Check.work(x, "c*2"), 3);
        Check.due("its w", x.size(3, 0), 3);
        Check.due("d of c's size", Check.work(x, "c+d"), 4);
        Check.dueFault(x, "a+d", 2);
        CellAlgebra y = new CellAlgebra();
        y.raster(2, 2);
        y.raster(2, 1);
        y.raster(1, 2);
        Check.dueFault(y, "a+b", 2);
        Check.dueFault(y, "a+c", 2);
    }

    private static void depth() {
        faults("(".repeat(40), 39, "(".repeat(39), 39, "-".repeat(40) + "a", 39,
                "abs(".repeat(40), 159, "abs(".repeat(39) + "abs", 156,
                "abs(".repeat(39) + "abs  (", 161, "min(a,".repeat(40), 237,
                "a?".repeat(40), 79, "a?1:".repeat(40), 157, "-(".repeat(20), 39,
                "-(".repeat(19) + "-a?", 41, "(".repeat(39) + "a?", 40,
                "(".repeat(39) + "-a", 39, "(".repeat(39) + "a--a", 41,
                "(".repeat(38) + "sum((a", 42, "(".repeat(400), 39);
    }

    private static void latest() {
        CellAlgebra x = three();
        Check.due("before any", x.place(), -1);
        Check.dueFault(x, "a b", 2);
        Check.due("again", x.place(), 2);
        x.raster(1, 1);
        Check.feed(x, "a");
        Check.due("until the next algebra()", x.place(), 2);
        Check.due("algebra()", x.algebra(), 4);
        Check.due("none", x.place(), -1);
        Check.dueFault(x, "", 0);
    }
}

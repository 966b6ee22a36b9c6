/** Promises 10 and 11, FAULT and depth: one test for each sentence that names a boundary. */
public final class FaultBoundaryTest {
    public static void main(String[] args) {
        notTheBeginning();
        oneComparison();
        oneChoice();
        argumentsOfTwo();
        argumentsOfOne();
        endsTooEarly();
        endsTooEarlyBehindBlanks();
        reachBeyondBounds();
        shiftsBeyondBounds();
        greatestOfNineDigits();
        tenthDigit();
        longWords();
        wordsBesideNames();
        namesWithoutBracket();
        rastersThatAreNot();
        rastersOfAnotherSize();
        noRaster();
        firstFromTheLeft();
        fortyDeep();
        deeperThanForty();
        depthBehindColonAndComma();
        whatIsNotDeeper();
        depthBeforeWhatStandsBehind();
        faultBeforeRoom();
        faultsChangeNothing();
        placeOfTheLatest();
        placeOfNone();
        Check.finish();
    }

    /** Rasters a and b of 2 by 3, c of 3 by 2, and none more. */
    private static CellAlgebra three() {
        CellAlgebra x = new CellAlgebra();
        x.raster(2, 3);
        x.raster(2, 3);
        x.raster(3, 2);
        return x;
    }

    private static void faults(Object... textsAndPlaces) {
        CellAlgebra x = three();
        for (int k = 0; k < textsAndPlaces.length; k += 2) {
            Check.dueFault(x, (String) textsAndPlaces[k], (Integer) textsAndPlaces[k + 1]);
        }
    }

    private static void works(String... texts) {
        CellAlgebra x = three();
        for (String text : texts) {
            int count = x.rasters();
            Check.due("'" + text + "'", Check.work(x, text), count);
            Check.due("place of '" + text + "'", x.place(), -1);
        }
    }

    private static void notTheBeginning() {
        Check.sentence("at the first byte with which what stands before is not the beginning of a"
                + " text");
        faults(")", 0, "+a", 0, "*a", 0, "?a:b", 0, ":", 0, ",", 0, "<a", 0, "=a", 0, "#", 0,
                "A", 0, "a)", 1, "a a", 2, "a 1", 2, "1 a", 2, "1a", 1, "a1", 1, "a(b)", 1,
                "(a)b", 3, "(a)1", 3, "(a)(b)", 3, "()", 1, "(a,b)", 2, "a++b", 2, "a**b", 2,
                "a-)", 2, "a-*b", 2, "-)", 1, "-+a", 1, "a,b", 1, "a:b", 1, "abs(a)b", 6,
                "abs()", 4, "abs(a))", 6, "abs((a)", 7, "sum(a,1)1", 8, "a?b:a)", 5, "(a?b)", 4,
                "(a?b:a,b)", 6, "a\u0000", 1, "\u0000", 0, "a\u00ff", 1, "\u00e1", 0);
    }

    private static void oneComparison() {
        Check.sentence("c: s [< <= > >= = # s]");
        faults("a<b<a", 3, "a<=b>a", 4, "a=b=a", 3, "a#b>=a", 3, "a==b", 2, "a=<b", 2, "a=>b", 2,
                "a<>b", 2, "a<<b", 2, "a<==b", 3, "a##b", 2, "a><b", 2, "a+b<a+b<1", 7);
        works("(a<b)<a", "a<(b<a)", "a<b?a<b:a<b", "min(a<b,a<b)", "a<=b", "a>=b", "a<-b");
    }

    private static void oneChoice() {
        Check.sentence("e: c [? e : e]");
        faults("a?b", 3, "a?b)", 3, "a?b,a", 3, "a?b:a:b", 5, "a??b", 2, "a?:b", 2, "a?b::a", 4,
                "a?b?a:b", 7, "a?b:a?b", 7, "1+a?b:a)", 7);
        works("a?b:a", "a?b?a:b:a", "a?b:a?b:a", "(a?b:a)?b:a", "a<b?a:b", "a?a<b:a<b");
    }

    private static void argumentsOfTwo() {
        Check.sentence("min max or of two");
        for (String name : new String[] {"min", "max", "or"}) {
            int n = name.length();
            faults(name + "(a)", n + 2, name + "(a,b,a)", n + 4, name + "()", n + 1,
                    name + "(,a)", n + 1, name + "(a,)", n + 3, name + "(a b)", n + 3,
                    name + "(a,b", n + 4, name + "(a;b)", n + 2, name + "(a:b)", n + 2);
            works(name + "(a,b)");
        }
    }

    private static void argumentsOfOne() {
        Check.sentence("abs blank of one");
        for (String name : new String[] {"abs", "blank"}) {
            int n = name.length();
            faults(name + "()", n + 1, name + "(a,b)", n + 2, name + "(a,1)", n + 2,
                    name + "(a b)", n + 3, name + "(a", n + 2, name + "(,)", n + 1);
            works(name + "(a)", name + "(a?b:a)", name + "(a<b)");
        }
    }

    private static void endsTooEarly() {
        Check.sentence("(its length if it ends too early)");
        faults("", 0, "-", 1, "(", 1, "a+", 2, "a-", 2, "a*", 2, "a/", 2, "a%", 2, "a<", 2,
                "a<=", 3, "a>", 2, "a>=", 3, "a=", 2, "a#", 2, "a?", 2, "a?b", 3, "a?b:", 4,
                "(a", 2, "((a)", 4, "abs(", 4, "abs(a", 5, "min(a,", 6, "min(a,b", 7, "sum(a", 5,
                "sum(a,", 6, "sum(a,3", 7, "at(a", 4, "at(a,", 5, "at(a,-", 6, "at(a,50", 7,
                "at(a,-50", 8, "at(a,1,", 7, "at(a,1,-", 8, "at(a,1,1", 8);
    }

    private static void endsTooEarlyBehindBlanks() {
        Check.sentence("(its length if it ends too early)");
        faults(" ", 1, "\n", 1, "   ", 3, "a+ ", 3, "a + \n", 5, "( a ", 4, "a ? b ", 6,
                "abs (", 5, "abs ( ", 6, "sum(a, ", 7, "at(a,1, ", 8, "  1  ", 5);
    }

    private static void reachBeyondBounds() {
        Check.sentence("k, dx or dy beyond its bounds: at its first byte");
        for (String name : new String[] {"sum", "top", "low"}) {
            faults(name + "(a,4)", 6, name + "(a,9)", 6, name + "(a,10)", 6, name + "(a,30)", 6,
                    name + "(a, 4)", 7, name + "(a,\n 04 )", 8, name + "(a,999999999)", 6,
                    name + "(a,4", 6, name + "(a,-1)", 6, name + "(a,-0)", 6, name + "(a,+1)", 6,
                    name + "(a,b)", 6, name + "(a,(1))", 6, name + "(a,1,1)", 7,
                    name + "(a,1+1)", 7, name + "(a)", 5, name + "(a,)", 6);
            works(name + "(a,0)", name + "(a,3)", name + "(a, 000000003 )", name + "(a,000000000)");
        }
    }

    private static void shiftsBeyondBounds() {
        Check.sentence("k, dx or dy beyond its bounds: at its first byte");
        faults("at(a,51,0)", 5, "at(a,-51,0)", 5, "at(a,0,51)", 7, "at(a,0,-51)", 7,
                "at(a, 51,0)", 6, "at(a, -51,0)", 6, "at(a,0,\n-51)", 8, "at(a,0,051)", 7,
                "at(a,100,0)", 5, "at(a,999999999,0)", 5, "at(a,0,-999999999)", 7,
                "at(a,51,51)", 5, "at(a,50,51)", 8, "at(a,-50,-51)", 9, "at(a,51", 5);
        faults("at(a,--1,0)", 6, "at(a,+1,0)", 5, "at(a,- 1,0)", 6, "at(a,-,0)", 6, "at(a,b,0)", 5,
                "at(a,(1),0)", 5, "at(a,1)", 6, "at(a,1,2,3)", 8, "at(a,1 2,3)", 7,
                "at(a,1,2+1)", 8, "at(a,1-1,2)", 6, "at(a,,1)", 5, "at(a,1,)", 7);
        works("at(a,50,50)", "at(a,-50,-50)", "at(a,-0,0)", "at(a,0,-00)", "at(a,000000050,-1)",
                "at(a,-000000050,49)", "at(a, -1 , -2 )");
    }

    private static void greatestOfNineDigits() {
        Check.sentence("a number that is too great");
        works("a+999999999", "999999999+a", "a*000000001");
        // As nine digits are never too great for an int, only k, dx and dy can be.
        faults("sum(a,000000004)", 6, "at(a,000000051,0)", 5, "at(a,0,-000000051)", 7);
    }

    private static void tenthDigit() {
        Check.sentence("a tenth digit at it");
        faults("1234567890", 9, "0000000000", 9, "a+1000000000", 11, "a+00000000001", 11,
                " \n1234567890", 11, "a+99999999999999999999", 11, "abs(1234567890", 13,
                "sum(a,0000000000)", 15, "sum(a,0000000003", 15, "at(a,0000000000,0)", 14,
                "at(a,-0000000050,0)", 15, "at(a,0,0000000001)", 16);
        works("a+123456789", "a+12345678+9", "a+(123456789)");
    }

    private static void longWords() {
        Check.sentence("A word is a row of small letters, as long as may be");
        faults("aa", 0, "ab", 0, "a+ab", 2, "ja", 0, "abs1(a)", 0, "absa(a)", 0, "aabs(a)", 0,
                "minmax(a,b)", 0, "mi(a,b)", 0, "blan(a)", 0, "blanks(a)", 0, "ora(a,b)", 0,
                "o(a,b)", 0, "t(a,1,1)", 0, "att(a,1,1)", 0, "su(a,1)", 0, "sums(a,1)", 0,
                "Min(a,b)", 0, "mIn(a,b)", 0, "miN(a,b)", 0, "mid(a,b)", 0, "to(a,1)", 0,
                "lo(a,1)", 0, "may(a,b)", 0, "z".repeat(60), 0, "a+" + "a".repeat(300), 2,
                "k", 0, "z", 0, "a+k", 2, "az", 0, "za", 0, "a`", 1, "a{", 1, "`a", 0, "{", 0);
    }

    private static void wordsBesideNames() {
        Check.sentence("one of a .. j, or a name with ( behind it");
        String[] calls = {"min(a,b)", "max(a,b)", "or(a,b)", "abs(a)", "blank(a)", "sum(a,1)",
            "top(a,1)", "low(a,1)", "at(a,1,1)"};
        for (String call : calls) {
            int letters = call.indexOf('(');
            works(call);
            for (int k = 0; k < letters; k++) {
                String left = call.substring(0, k);
                String right = call.substring(k + 1);
                faults(left + "q" + right, 0, left + "q" + call.charAt(k) + right, 0);
            }
        }
    }

    private static void namesWithoutBracket() {
        Check.sentence("or a name with ( behind it (blanks may stand between), else a fault at its"
                + " first byte");
        String[] names = {"min", "max", "or", "abs", "blank", "sum", "top", "low", "at"};
        for (String name : names) {
            faults(name, 0, " " + name, 1, name + "  ", 0, name + " a", 0, name + ")", 0,
                    "a+" + name + "+a", 2, name + "\t(a)", 0, name + "[a]", 0, "(" + name + ",", 1,
                    name + " \n 1", 0);
        }
        works("abs(a)", "abs (a)", "abs\n(a)", "abs \n \n (a)", "min  (a,b)", "sum (a,1)",
                "at (a,1,1)");
    }

    private static void rastersThatAreNot() {
        Check.sentence("A raster that there is not");
        faults("d", 0, "j", 0, "a+d", 2, "  e", 2, "abs(f)", 4, "a?b:g", 4, "a?h:b", 2, "-i", 1,
                "d+", 0, "d)", 0, "d d", 0);
        CellAlgebra x = new CellAlgebra();
        Check.dueFault(x, "a", 0);
        x.raster(1, 1);
        Check.dueFault(x, "a+b", 2);
        Check.due("a", Check.work(x, "a"), 1);
        Check.due("a+b", Check.work(x, "a+b"), 2);
        Check.dueFault(x, "a+b+c+d", 6);
    }

    private static void rastersOfAnotherSize() {
        Check.sentence("or of another size than the first one in the text: a fault at its letter");
        faults("a+c", 2, "c+a", 2, "c+c+b", 4, "a+b+c", 4, "a?b:c", 4, "a?c:b", 2, "c?a:b", 2,
                "min(a, c)", 7, "sum(c,1)+a", 9, "at(a,1,1)+c", 10, "a<c", 2, "1+2*c-b", 6,
                "a+c+", 2, "blank(a)+blank(c)", 15);
        works("c", "c+c", "c?c:c", "a+b", "b+a");
        CellAlgebra x = new CellAlgebra();
        x.raster(50, 50);
        x.raster(50, 49);
        x.raster(49, 50);
        Check.dueFault(x, "a+b", 2);
        Check.dueFault(x, "a+c", 2);
        Check.dueFault(x, "b+c", 2);
    }

    private static void noRaster() {
        Check.sentence("No raster in a text: a fault at its length.");
        faults("1", 1, "1 ", 2, "1+2", 3, "(1)", 3, "-1", 2, "min(1,2)", 8, "1?2:3", 5,
                "sum(1,1)", 8, "at(1,1,1)", 9, "blank(1/0)", 10, "999999999", 9, " 1 \n", 4);
        faults("1)", 1, "1 1", 2, "1+", 2);
    }

    private static void firstFromTheLeft() {
        Check.sentence("From the left the first fault is told.");
        faults("a+d+c", 2, "a+c+d", 2, "d+)", 0, "a)+d", 1, "k+sum(a,4)", 0, "sum(a,4)+k", 6,
                "sum(d,4)", 4, "sum(a,4)+1234567890", 6, "1234567890+sum(a,4)", 9,
                "at(a,51,99)+c", 5, "at(c,0,0)+at(a,51,0)", 13, "min(a,c", 6, "min(a,b+", 8,
                "1+min", 2, "1+2)", 3, "1+2 3", 4, "a\t+c", 1, "a+c\t", 2, "ab+cd", 0, "c+ab+a", 2);
        // Nine digits are beyond the bounds already, and the first stands left of the tenth.
        faults("sum(a,1234567890)", 6, "at(a,-1234567890,0)", 5, "at(a,0,9999999999)", 7);
    }

    private static void fortyDeep() {
        Check.sentence("at most 40");
        works("(".repeat(39) + "a" + ")".repeat(39), "-".repeat(39) + "a",
                "abs(".repeat(39) + "a" + ")".repeat(39),
                "min(".repeat(39) + "a" + ",b)".repeat(39),
                "min(a,".repeat(39) + "b" + ")".repeat(39),
                "sum(".repeat(39) + "a" + ",1)".repeat(39),
                "at(".repeat(39) + "a" + ",-1,-1)".repeat(39),
                "a?".repeat(39) + "b" + ":a".repeat(39), "a?b:".repeat(39) + "a");
    }

    private static void deeperThanForty() {
        Check.sentence("else a fault at that byte");
        faults("(".repeat(40) + "a" + ")".repeat(40), 39, "-".repeat(40) + "a", 39,
                "abs(".repeat(40) + "a" + ")".repeat(40), 159,
                "min(".repeat(40) + "a" + ",b)".repeat(40), 159,
                "a?".repeat(40) + "b" + ":a".repeat(40), 79, "a?b:".repeat(40) + "a", 157);
        faults("-(".repeat(19) + "-(a" + ")".repeat(20), 39, "-(".repeat(19) + "--a", 39,
                "abs -(".repeat(2), 0, "abs(-".repeat(20) + "a", 99, "(".repeat(39) + "a?b:a", 40,
                "(".repeat(39) + "a+b*-a", 43, "(".repeat(39) + "abs  (a)", 44,
                "(".repeat(39) + " \n (", 42, "(".repeat(300), 39);
    }

    private static void depthBehindColonAndComma() {
        Check.sentence("what stands behind - ( ? : or a comma is one deeper than what that belongs"
                + " to");
        String open = "(".repeat(38);
        String close = ")".repeat(38);
        works(open + "a?b:a" + close, open + "min(a,b)" + close, open + "(a)" + close,
                open + "-a" + close, "a?b:" + open + "a" + close, "min(a," + open + "b" + close + ")",
                "min(" + open + "a" + close + ",b)", "a?" + open + "b" + close + ":a");
        faults(open + "a?-b:a", 40, open + "a?b:-a", 42, open + "a?b:(a)", 42, open + "a?b?", 41,
                open + "a?b:a?", 43, open + "min(a,-b)", 44, open + "min(-a,b)", 42,
                open + "min(a,b?", 45, open + "min(a,abs(b))", 47, open + "(-a)", 39,
                open + "--a", 39, open + "-(a)", 39);
    }

    private static void whatIsNotDeeper() {
        Check.sentence("a text is 1 deep");
        String open = "(".repeat(39);
        String close = ")".repeat(39);
        // Signs between two parts, and the - of a shift, are none that go deeper.
        works("a" + "+b".repeat(100), "a" + "-b".repeat(100), "a" + "*b".repeat(100),
                "(a)" + "+(b)".repeat(60), "-a" + "--b".repeat(60), "abs(a)" + "*abs(b)".repeat(50));
        works(open + "a-b-a" + close, open + "a<b-a" + close, open + "a*b%a" + close,
                "(".repeat(38) + "at(a,-1,-1)" + ")".repeat(38),
                "(".repeat(38) + "sum(a,3)-top(b,1)" + ")".repeat(38),
                "(" + open.substring(1) + "a" + close.substring(1) + ")-" + open + "b" + close);
    }

    private static void depthBeforeWhatStandsBehind() {
        Check.sentence("at most 40: else a fault at that byte.");
        String open = "(".repeat(39);
        faults(open + "(", 39, open + "-", 39, open + "()", 39, open + "a?", 40, open + "abs", 39,
                open + "abs(", 42, open + "abd(", 39, open + "?", 39, open + "+", 39, open, 39,
                open + "c?a", 40, open + "d?", 39, open + "a", 40, open + "a ", 41);
    }

    private static CellAlgebra full() {
        CellAlgebra x = new CellAlgebra();
        for (int k = 0; k < 40; k++) {
            x.raster(1, 1);
        }
        return x;
    }

    private static void faultBeforeRoom() {
        Check.sentence("-1 a fault, then -12.");
        CellAlgebra x = full();
        Check.due("a", Check.work(x, "a"), -12);
        Check.due("its place", x.place(), -1);
        Check.dueFault(x, "a+", 2);
        Check.dueFault(x, "", 0);
        Check.dueFault(x, "1", 1);
        Check.due("a+b", Check.work(x, "a+b"), -12);
        Check.due("its place", x.place(), -1);
        Check.due("rasters()", x.rasters(), 40);
    }

    private static void faultsChangeNothing() {
        Check.sentence("-1 a fault");
        CellAlgebra x = new CellAlgebra();
        Check.raster(x, 2, 1, 5, null);
        Check.dueFault(x, "a+a)", 3);
        String before = Check.seen(x);
        Check.dueFault(x, "b+a", 0);
        Check.dueFault(x, "a+b", 2);
        Check.dueFault(x, "a+a)", 3);
        Check.dueSame("faults", x, before);
        Check.dueText(x, "a+a", 2, 1, 10, null);
    }

    private static void placeOfTheLatest() {
        Check.sentence("The place of the fault of the latest algebra()");
        CellAlgebra x = three();
        Check.dueFault(x, "a+b a", 4);
        Check.dueFault(x, ")", 0);
        Check.dueFault(x, "a a", 2);
        x.raster(0, 0);
        x.spread(0, 2);
        x.put(0, 0, 0, 1);
        Check.feed(x, "a+b a");
        Check.due("with the next text in the tray", x.place(), 2);
        Check.due("asked again", x.place(), 2);
        Check.due("algebra()", x.algebra(), -1);
        Check.due("of the next", x.place(), 4);
    }

    private static void placeOfNone() {
        Check.sentence("-1 if it had none, or there was none");
        CellAlgebra x = new CellAlgebra();
        Check.due("a new object", x.place(), -1);
        x.raster(1, 1);
        Check.feed(x, "a)");
        Check.due("before algebra()", x.place(), -1);
        Check.due("algebra()", x.algebra(), -1);
        Check.due("a fault", x.place(), 1);
        Check.due("algebra()", Check.work(x, "a"), 1);
        Check.due("a text without one", x.place(), -1);
        CellAlgebra full = full();
        Check.dueFault(full, "a)", 1);
        Check.due("algebra()", Check.work(full, "a"), -12);
        Check.due("no fault, but no room", full.place(), -1);
    }
}

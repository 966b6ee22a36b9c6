/** Promise 10: what the texts work out. */
public final class AlgebraTest {
    private static final int LEAST = Integer.MIN_VALUE;
    private static final int GREATEST = Integer.MAX_VALUE;

    public static void main(String[] args) {
        signs();
        comparisons();
        wrapping();
        dividing();
        blanks();
        choosing();
        windows();
        moving();
        spaces();
        depth();
        manyWaiting();
        longText();
        letters();
        Check.finish();
    }

    private static CellAlgebra with(int w, int h, Integer... cells) {
        CellAlgebra x = new CellAlgebra();
        Check.raster(x, w, h, cells);
        return x;
    }

    private static void signs() {
        CellAlgebra x = with(3, 1, 7, -7, null);
        Check.dueText(x, "a", 3, 1, 7, -7, null);
        Check.dueText(x, "a+1*2", 3, 1, 9, -5, null);
        Check.dueText(x, "(a+1)*2", 3, 1, 16, -12, null);
        Check.dueText(x, "a-1-2", 3, 1, 4, -10, null);
        Check.dueText(x, "10-a-2+1", 3, 1, 2, 16, null);
        Check.dueText(x, "100/a/2*3%4", 3, 1, 1, -1, null);
        Check.dueText(x, "2+3*4-a*2%3", 3, 1, 12, 16, null);
        Check.dueText(x, "-a*2", 3, 1, -14, 14, null);
        Check.dueText(x, "2*-a", 3, 1, -14, 14, null);
        Check.dueText(x, "2--a", 3, 1, 9, -5, null);
        Check.dueText(x, "---a", 3, 1, -7, 7, null);
        Check.dueText(x, "abs(a)+abs(-3)", 3, 1, 10, 10, null);
        Check.dueText(x, "min(a,3)", 3, 1, 3, -7, null);
        Check.dueText(x, "max(3,a)", 3, 1, 7, 3, null);
        Check.dueText(x, "999999999+0*a", 3, 1, 999999999, 999999999, null);
        Check.dueText(x, "000000012+0*a", 3, 1, 12, 12, null);
    }

    private static void comparisons() {
        CellAlgebra x = with(4, 1, 1, 2, 3, null);
        Check.dueText(x, "a<2", 4, 1, 1, 0, 0, null);
        Check.dueText(x, "a<=2", 4, 1, 1, 1, 0, null);
        Check.dueText(x, "a>2", 4, 1, 0, 0, 1, null);
        Check.dueText(x, "a>=2", 4, 1, 0, 1, 1, null);
        Check.dueText(x, "a=2", 4, 1, 0, 1, 0, null);
        Check.dueText(x, "a#2", 4, 1, 1, 0, 1, null);
        Check.dueText(x, "a+1>5-a", 4, 1, 0, 0, 1, null);
        Check.dueText(x, "(a<2)<1", 4, 1, 0, 1, 1, null);
        CellAlgebra y = with(2, 1, LEAST, GREATEST);
        Check.dueText(y, "a<1", 2, 1, 1, 0);
        Check.dueText(y, "a>1", 2, 1, 0, 1);
        Check.dueText(y, "min(a,0)", 2, 1, LEAST, 0);
    }

    private static void wrapping() {
        CellAlgebra x = with(2, 1, LEAST, GREATEST);
        Check.dueText(x, "a+1", 2, 1, LEAST + 1, LEAST);
        Check.dueText(x, "a-1", 2, 1, GREATEST, GREATEST - 1);
        Check.dueText(x, "a*a", 2, 1, 0, 1);
        Check.dueText(x, "a*3", 2, 1, LEAST, GREATEST - 2);
        Check.dueText(x, "-a", 2, 1, LEAST, -GREATEST);
        Check.dueText(x, "abs(a)", 2, 1, LEAST, GREATEST);
        Check.dueText(x, "sum(a,1)", 2, 1, -1, -1);
        Check.dueText(x, "sum(a+a-1,1)", 2, 1, -4, -4);
        // 1294967296 less than 2 to the 32nd: the answer must not be taken for a blank.
        Check.dueText(x, "a-a-647483648*2", 2, 1, -1294967296, -1294967296);
        CellAlgebra y = with(2, 1, 1500000000, 1500000000);
        Check.dueText(y, "a+a", 2, 1, -1294967296, -1294967296);
        Check.dueText(y, "sum(a,1)", 2, 1, -1294967296, -1294967296);
        Check.dueText(y, "sum(a,1)+1", 2, 1, -1294967295, -1294967295);
    }

    private static void dividing() {
        CellAlgebra x = with(5, 1, 7, -7, LEAST, 0, null);
        Check.dueText(x, "a/2", 5, 1, 3, -3, LEAST / 2, 0, null);
        Check.dueText(x, "a%2", 5, 1, 1, -1, 0, 0, null);
        Check.dueText(x, "a/-2", 5, 1, -3, 3, 1 << 30, 0, null);
        Check.dueText(x, "a%-2", 5, 1, 1, -1, 0, 0, null);
        Check.dueText(x, "a/-1", 5, 1, -7, 7, LEAST, 0, null);
        Check.dueText(x, "a%-1", 5, 1, 0, 0, 0, 0, null);
        Check.dueText(x, "a/0", 5, 1, null, null, null, null, null);
        Check.dueText(x, "a%0", 5, 1, null, null, null, null, null);
        Check.dueText(x, "14/a", 5, 1, 2, -2, 0, null, null);
        Check.dueText(x, "15%a", 5, 1, 1, 1, 15, null, null);
        Check.dueText(x, "or(1/a,5)", 5, 1, 0, 0, 0, 5, 5);
    }

    private static void blanks() {
        CellAlgebra x = with(3, 1, 4, null, 0);
        Check.raster(x, 3, 1, null, null, 9);
        Check.dueText(x, "blank(a)", 3, 1, 0, 1, 0);
        Check.dueText(x, "blank(a+b)", 3, 1, 1, 1, 0);
        Check.dueText(x, "or(a,b)", 3, 1, 4, null, 0);
        Check.dueText(x, "or(b,a)", 3, 1, 4, null, 9);
        Check.dueText(x, "or(or(a,b),-1)", 3, 1, 4, -1, 0);
        Check.dueText(x, "a*b", 3, 1, null, null, 0);
        Check.dueText(x, "b*0", 3, 1, null, null, 0);
        Check.dueText(x, "min(a,b)", 3, 1, null, null, 0);
        Check.dueText(x, "max(b,a)", 3, 1, null, null, 9);
        Check.dueText(x, "a=b", 3, 1, null, null, 0);
        Check.dueText(x, "b#b", 3, 1, null, null, 0);
        Check.dueText(x, "-b", 3, 1, null, null, -9);
        Check.dueText(x, "abs(a)", 3, 1, 4, null, 0);
    }

    private static void choosing() {
        CellAlgebra x = with(4, 1, 1, 0, -5, null);
        Check.dueText(x, "a?10:20", 4, 1, 10, 20, 10, null);
        Check.dueText(x, "a?1/0:20", 4, 1, null, 20, null, null);
        Check.dueText(x, "a?20:1/0", 4, 1, 20, null, 20, null);
        Check.dueText(x, "blank(a)?7:a", 4, 1, 1, 0, -5, 7);
        Check.dueText(x, "a<0?1:a=0?2:3", 4, 1, 3, 2, 1, null);
        Check.dueText(x, "a#0?a<0?1:2:3", 4, 1, 2, 3, 1, null);
        Check.dueText(x, "a?1:2+10", 4, 1, 1, 12, 1, null);
        Check.dueText(x, "(a?1:2)+10", 4, 1, 11, 12, 11, null);
        Check.dueText(x, "a+5?1:2", 4, 1, 1, 1, 2, null);
    }

    private static void windows() {
        CellAlgebra x = with(5, 2, 1, null, null, null, 5, null, -2, null, null, null);
        Check.dueText(x, "sum(a,0)", 5, 2, 1, null, null, null, 5, null, -2, null, null, null);
        Check.dueText(x, "sum(a,1)", 5, 2, -1, -1, -2, 5, 5, -1, -1, -2, 5, 5);
        Check.dueText(x, "top(a,1)", 5, 2, 1, 1, -2, 5, 5, 1, 1, -2, 5, 5);
        Check.dueText(x, "low(a,1)", 5, 2, -2, -2, -2, 5, 5, -2, -2, -2, 5, 5);
        Check.dueText(x, "sum(a,2)", 5, 2, -1, -1, 4, 3, 5, -1, -1, 4, 3, 5);
        Check.dueText(x, "sum(a,3)", 5, 2, -1, 4, 4, 4, 3, -1, 4, 4, 4, 3);
        Check.dueText(x, "top(a , 03 )", 5, 2, 1, 5, 5, 5, 5, 1, 5, 5, 5, 5);
        Check.dueText(x, "sum(blank(a),1)", 5, 2, 2, 4, 5, 5, 3, 2, 4, 5, 5, 3);
        Check.dueText(x, "sum(a/0,3)", 5, 2, null, null, null, null, null,
                null, null, null, null, null);
        Check.dueText(x, "sum(sum(a,1),1)", 5, 2, -4, -8, 4, 16, 20, -4, -8, 4, 16, 20);
        CellAlgebra y = with(1, 4, 3, 1, 2, 9);
        Check.dueText(y, "sum(a,1)", 1, 4, 4, 6, 12, 11);
        Check.dueText(y, "top(a,2)", 1, 4, 3, 9, 9, 9);
        Check.dueText(y, "low(a,1)", 1, 4, 1, 1, 1, 2);
        CellAlgebra z = new CellAlgebra();
        z.raster(50, 50);
        Check.due("largest", Check.work(z, "sum(or(a,1),3)"), 1);
        Check.due("a corner", z.cell(1, 49, 49), 16);
        Check.due("an edge", z.cell(1, 49, 20), 28);
        Check.due("inside", z.cell(1, 20, 20), 49);
    }

    private static void moving() {
        CellAlgebra x = with(3, 2, 1, 2, 3, 4, 5, null);
        Check.dueText(x, "at(a,0,0)", 3, 2, 1, 2, 3, 4, 5, null);
        Check.dueText(x, "at(a,1,0)", 3, 2, 2, 3, null, 5, null, null);
        Check.dueText(x, "at(a,-1,0)", 3, 2, null, 1, 2, null, 4, 5);
        Check.dueText(x, "at(a,0,1)", 3, 2, 4, 5, null, null, null, null);
        Check.dueText(x, "at(a,0,-1)", 3, 2, null, null, null, 1, 2, 3);
        Check.dueText(x, "at(a,2,-1)", 3, 2, null, null, null, 3, null, null);
        Check.dueText(x, "at( a+1 , -01 , 000000001 )", 3, 2, null, 5, 6, null, null, null);
        Check.dueText(x, "at(a,50,-50)", 3, 2, null, null, null, null, null, null);
        Check.dueText(x, "at(a,-50,50)", 3, 2, null, null, null, null, null, null);
        Check.dueText(x, "at(7,1,0)+0*a", 3, 2, 7, 7, null, 7, 7, null);
        Check.dueText(x, "blank(at(a,-1,-1))", 3, 2, 1, 1, 1, 1, 0, 0);
        Check.dueText(x, "at(at(a,1,0),-1,0)", 3, 2, null, 2, 3, null, 5, null);
        Check.dueText(x, "at(a,-0,0)", 3, 2, 1, 2, 3, 4, 5, null);
        CellAlgebra y = new CellAlgebra();
        y.raster(50, 50);
        y.put(0, 49, 0, 8);
        Check.due("farthest", Check.work(y, "at(a,49,-49)"), 1);
        Check.due("its cell", y.cell(1, 0, 49), 8);
        Check.due("no other", y.size(1, 2), 1);
        y.wipe(0, 49, 0);
        y.put(0, 3, 49, 9);
        Check.due("farthest up", Check.work(y, "at(a,-46,49)"), 2);
        Check.due("its cell", y.cell(2, 49, 0), 9);
        Check.due("no other", y.size(2, 2), 1);
        Check.due("halfway", Check.work(y, "at(a,-20,20)"), 3);
        Check.due("its cell", y.cell(3, 23, 29), 9);
        Check.due("beyond", Check.work(y, "at(a,0,50)"), 4);
        Check.due("all blank", y.size(4, 2), 0);
    }

    private static void spaces() {
        CellAlgebra x = with(2, 1, 3, -3);
        Check.dueText(x, " \n a \n+\n1 ", 2, 1, 4, -2);
        Check.dueText(x, "min \n ( a , 0 ) ", 2, 1, 0, -3);
        Check.dueText(x, "- ( a )", 2, 1, -3, 3);
        Check.dueText(x, "a > = 3 ? 1 : 2", 2, 1, 1, 2);
        Check.dueText(x, "a <\n= - 3", 2, 1, 0, 1);
    }

    private static void depth() {
        CellAlgebra x = with(2, 1, 3, 0);
        Check.dueText(x, "(".repeat(39) + "a" + ")".repeat(39), 2, 1, 3, 0);
        Check.dueText(x, "-".repeat(39) + "a", 2, 1, -3, 0);
        Check.dueText(x, "abs(".repeat(39) + "a" + ")".repeat(39), 2, 1, 3, 0);
        Check.dueText(x, "min(a,".repeat(39) + "a" + ")".repeat(39), 2, 1, 3, 0);
        Check.dueText(x, "a?1:".repeat(39) + "5", 2, 1, 1, 5);
        Check.dueText(x, "a?".repeat(39) + "5" + ":9".repeat(39), 2, 1, 5, 9);
        Check.dueText(x, "at(".repeat(39) + "a" + ",-1,0)".repeat(39), 2, 1, null, null);
        Check.dueText(x, "(".repeat(39) + "a-1+a-2*a<a-4" + ")".repeat(39), 2, 1, 0, 0);
        Check.dueText(x, "(a)+(a)-" + "(".repeat(38) + "-a" + ")".repeat(38), 2, 1, 9, 0);
    }

    // Each "2<1+2*max(0,x)" is x where x is 0 or 1, with four values waiting for x.
    private static void manyWaiting() {
        CellAlgebra x = with(3, 1, 1, 2, null);
        String text = "2<1+2*max(0,".repeat(39) + "1<3-a*a" + ")".repeat(39);
        Check.dueText(x, text, 3, 1, 1, 0, null);
        String chosen = "a?2<1+2*max(0,".repeat(19) + "1<3-a*a" + "):7".repeat(19);
        Check.dueText(x, chosen, 3, 1, 1, 0, null);
    }

    private static void longText() {
        CellAlgebra x = new CellAlgebra();
        x.raster(50, 50);
        Check.due("ones", Check.work(x, "or(a,1)"), 1);
        Check.dueText(x, "b" + "+b".repeat(2400), 50, 50, 2401);
        Check.dueText(x, "sum(b,3)" + "+low(b,3)".repeat(400), 50, 50, 416);
    }

    private static void letters() {
        CellAlgebra x = new CellAlgebra();
        for (int k = 0; k < 12; k++) {
            x.raster(1, 1);
            x.put(k, 0, 0, 1 << k);
        }
        for (int k = 0; k < 10; k++) {
            Check.dueText(x, "" + (char) ('a' + k), 1, 1, 1 << k);
        }
        Check.dueText(x, "a+b+c+d+e+f+g+h+i+j", 1, 1, 1023);
        Check.dueFault(x, "a+k", 2);
    }
}

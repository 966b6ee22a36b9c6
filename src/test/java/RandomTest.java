import java.util.Random;

/** Promises 10 to 12 against other ways to the same answers, over texts and costs by chance. */
public final class RandomTest {
    private static final String[] TOKENS = {"a", "b", "c", "d", "k", "min(", "max", "or(", "abs(",
        "blank(", "sum(", "top(", "low(", "at(", "(", "(", ")", ")", ",", "?", ":", "<", "<=", ">",
        ">=", "=", "#", "+", "-", "*", "/", "%", "0", "1", "3", "4", "50", "51", "999999999",
        "1234567890", " ", "\n", "\t", ",1)", ",-1,0)", ",3)", "ab", "\u00ff"};

    public static void main(String[] args) {
        Random random = new Random(20261116);
        for (int k = 0; k < 3000; k++) {
            meaning(random);
        }
        for (int k = 0; k < 1500; k++) {
            faults(random);
        }
        for (int k = 0; k < 300; k++) {
            spreading(random);
        }
        for (int k = 0; k < 200; k++) {
            openSpreading(random);
        }
        Check.finish();
    }

    private static Integer[] someCells(Random random, int count, int blanks) {
        Integer[] cells = new Integer[count];
        for (int k = 0; k < count; k++) {
            int kind = random.nextInt(8);
            int v = kind == 0 ? random.nextInt() : kind == 1 ? Integer.MIN_VALUE
                    : random.nextInt(9) - 4;
            cells[k] = random.nextInt(10) < blanks ? null : Integer.valueOf(v);
        }
        return cells;
    }

    private static void meaning(Random random) {
        int w = 1 + random.nextInt(6);
        int h = 1 + random.nextInt(6);
        Integer[] a = someCells(random, w * h, 2);
        Integer[] b = someCells(random, w * h, 7);
        CellAlgebra x = new CellAlgebra();
        Check.raster(x, w, h, a);
        Check.raster(x, w, h, b);
        TextMaker maker = new TextMaker(random, w, h, a, b);
        TextMaker.Part part = maker.expression(4);
        boolean namesOne = maker.text().matches("(?s).*(?<![a-z])[ab](?![a-z]).*");
        if (namesOne && maker.text().length() < 8000) {
            Integer[] cells = new Integer[w * h];
            for (int k = 0; k < w * h; k++) {
                cells[k] = part.at(k % w, k / w);
            }
            Check.dueText(x, maker.text(), w, h, cells);
        }
    }

    private static void faults(Random random) {
        CellAlgebra x = new CellAlgebra();
        int[][] sizes = {{1, 2}, {1, 2}, {2, 1}};
        for (int[] s : sizes) {
            x.raster(s[0], s[1]);
        }
        Integer[] none = new Integer[2];
        TextMaker maker = new TextMaker(random, 1, 2, none, none);
        maker.expression(3);
        for (int k = 0; k < 20; k++) {
            String text = k < 14 ? changed(random, maker.text()) : soup(random);
            if (text.length() > 400 || x.rasters() >= 40) {
                continue;
            }
            int place = FaultFinder.find(text, sizes);
            if (place >= 0) {
                Check.dueFault(x, text, place);
            } else if (x.rasters() == 3) {
                Check.due("'" + text + "'", Check.work(x, text), x.rasters() - 1);
                Check.due("place of '" + text + "'", x.place(), -1);
                sizes = new int[][] {{1, 2}, {1, 2}, {2, 1}, {x.size(3, 0), x.size(3, 1)}};
            } else {
                x.end(0);
            }
        }
    }

    private static String changed(Random random, String text) {
        StringBuilder t = new StringBuilder(text);
        for (int k = random.nextInt(3); k >= 0; k--) {
            int from = random.nextInt(t.length() + 1);
            int to = Math.min(t.length(), from + random.nextInt(3));
            String token = TOKENS[random.nextInt(TOKENS.length)];
            t.replace(from, to, random.nextInt(3) == 0 ? "" : token);
        }
        return t.toString();
    }

    private static String soup(Random random) {
        StringBuilder t = new StringBuilder();
        String[] deepening = {"-", "(", "abs(", "a?", "a?b:", "min(a,", "min(", "1+", "a<2*"};
        for (int k = random.nextInt(60); k > 0; k--) {
            t.append(deepening[random.nextInt(deepening.length)]);
        }
        for (int k = random.nextInt(9); k > 0; k--) {
            t.append(TOKENS[random.nextInt(TOKENS.length)]);
        }
        return t.toString();
    }

    private static void spreading(Random random) {
        int most = random.nextInt(10) == 0 ? 50 : 9;
        int w = 1 + random.nextInt(most);
        int h = 1 + random.nextInt(most);
        Integer[] costs = new Integer[w * h];
        Integer[] seeds = new Integer[w * h];
        int bars = random.nextInt(6);
        int dearest = random.nextBoolean() ? 1000 : 3;
        for (int k = 0; k < w * h; k++) {
            boolean bar = random.nextInt(10) < bars;
            Integer barred = new Integer[] {null, -1, 1001, Integer.MIN_VALUE}[random.nextInt(4)];
            costs[k] = bar ? barred : Integer.valueOf(random.nextInt(dearest + 1));
            seeds[k] = random.nextInt(w * h) < 2 ? Integer.valueOf(random.nextInt()) : null;
        }
        dueSums(w, h, costs, seeds);
    }

    // Without bars every cell is gone on from, so that one in a wrong order leaves none to spare.
    private static void openSpreading(Random random) {
        int w = 1 + random.nextInt(50);
        int h = 1 + random.nextInt(50);
        Integer[] costs = new Integer[w * h];
        Integer[] seeds = new Integer[w * h];
        int kind = random.nextInt(4);
        for (int k = 0; k < w * h; k++) {
            int rarelyDear = random.nextInt(3) == 0 ? 1000 : random.nextInt(3);
            costs[k] = kind == 0 ? random.nextInt(1001) : kind == 1 ? rarelyDear
                    : kind == 2 ? k % w * 20 : 1000 - k * 37 % 1000;
        }
        seeds[random.nextInt(w * h)] = 1;
        seeds[random.nextInt(w * h)] = 1;
        dueSums(w, h, costs, seeds);
    }

    // The largest rasters take more calls to fill and to look at than an object is promised for.
    private static void dueSums(int w, int h, Integer[] costs, Integer[] seeds) {
        CellAlgebra x = new CellAlgebra();
        Check.raster(x, w, h, costs);
        Check.raster(x, w, h, seeds);
        Check.due("spread", x.spread(0, 1), 2);
        Check.dueCells("spread", x, 2, w, h, sums(w, h, costs, seeds));
    }

    private static boolean isOpen(Integer cost) {
        return cost != null && cost >= 0 && cost <= 1000;
    }

    /** Tries every step again and again until none makes a sum less. */
    private static Integer[] sums(int w, int h, Integer[] costs, Integer[] seeds) {
        Integer[] sums = new Integer[w * h];
        for (int k = 0; k < w * h; k++) {
            sums[k] = seeds[k] != null && isOpen(costs[k]) ? 0 : null;
        }
        boolean better = true;
        while (better) {
            better = false;
            for (int from = 0; from < w * h; from++) {
                for (int turn = 0; turn < 9 && sums[from] != null; turn++) {
                    int x = from % w + turn % 3 - 1;
                    int y = from / w + turn / 3 - 1;
                    int to = y * w + x;
                    if (x < 0 || x >= w || y < 0 || y >= h || !isOpen(costs[to])) {
                        continue;
                    }
                    int sum = sums[from] + (costs[from] + costs[to]) * (turn % 2 == 0 ? 7 : 5);
                    if (sums[to] == null || sum < sums[to]) {
                        sums[to] = sum;
                        better = true;
                    }
                }
            }
        }
        return sums;
    }
}

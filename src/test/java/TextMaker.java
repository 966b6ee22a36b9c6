import java.util.Random;

/**
 * Makes random texts by the document's grammar, each together with what it means. The meaning is
 * worked out cell by cell from the parts, in another way than the class does it.
 */
final class TextMaker {
    /** A part of a text; null is a blank. */
    interface Part {
        Integer at(int i, int j);
    }

    private final Random random;
    private final int w;
    private final int h;
    private final Integer[][] rasters;
    private final StringBuilder text = new StringBuilder();

    /** The rasters that may be named, all of one size, row by row from below. */
    TextMaker(Random random, int w, int h, Integer[]... rasters) {
        this.random = random;
        this.w = w;
        this.h = h;
        this.rasters = rasters;
    }

    String text() {
        return text.toString();
    }

    Part expression(int depth) {
        Part c = comparison(depth);
        if (random.nextInt(5) != 0 || depth <= 0) {
            return c;
        }
        sign("?");
        Part x = expression(depth - 1);
        sign(":");
        Part y = expression(depth - 1);
        return kept((i, j) -> {
            Integer choice = c.at(i, j);
            return choice == null ? null : choice != 0 ? x.at(i, j) : y.at(i, j);
        });
    }

    private Part comparison(int depth) {
        Part left = sum(depth);
        if (random.nextInt(4) != 0) {
            return left;
        }
        String sign = new String[] {"<", "<=", ">", ">=", "=", "#"}[random.nextInt(6)];
        sign(sign);
        return both(sign, left, sum(depth));
    }

    private Part sum(int depth) {
        Part left = product(depth);
        for (int k = random.nextInt(5) - 2; k > 0; k--) {
            String sign = random.nextBoolean() ? "+" : "-";
            sign(sign);
            left = both(sign, left, product(depth));
        }
        return left;
    }

    private Part product(int depth) {
        Part left = unary(depth);
        for (int k = random.nextInt(5) - 2; k > 0; k--) {
            String sign = new String[] {"*", "/", "%"}[random.nextInt(3)];
            sign(sign);
            left = both(sign, left, unary(depth));
        }
        return left;
    }

    private Part unary(int depth) {
        space();
        int kind = depth <= 0 ? random.nextInt(2) : random.nextInt(13);
        switch (kind) {
            case 0:
                int number = random.nextInt(random.nextInt(3) == 0 ? 1000000000 : 4);
                text.append(number);
                return (i, j) -> number;
            case 1:
            case 2:
                int r = random.nextInt(rasters.length);
                text.append((char) ('a' + r));
                return (i, j) -> rasters[r][j * w + i];
            case 3:
                sign("(");
                Part inner = expression(depth - 1);
                sign(")");
                return inner;
            case 4:
                sign("-");
                Part negated = unary(depth - 1);
                return one("-", negated);
            case 5:
            case 6:
                String single = kind == 5 ? "abs" : "blank";
                name(single);
                Part argument = expression(depth - 1);
                sign(")");
                return one(single, argument);
            case 7:
            case 8:
            case 9:
                return pair(new String[] {"min", "max", "or"}[kind - 7], depth);
            case 10:
            case 11:
                return window(new String[] {"sum", "top", "low"}[random.nextInt(3)], depth);
            default:
                return moved(depth);
        }
    }

    private Part pair(String name, int depth) {
        name(name);
        Part left = expression(depth - 1);
        sign(",");
        Part right = expression(depth - 1);
        sign(")");
        return both(name, left, right);
    }

    private Part window(String name, int depth) {
        name(name);
        Part inner = expression(depth - 1);
        sign(",");
        space();
        int reach = random.nextInt(4);
        text.append(reach);
        sign(")");
        return kept((i, j) -> {
            Integer found = null;
            for (int y = 0; y < h; y++) {
                for (int x = 0; x < w; x++) {
                    Integer v = inner.at(x, y);
                    if (v != null && Math.abs(x - i) <= reach && Math.abs(y - j) <= reach) {
                        found = found == null ? v : name.equals("sum") ? Integer.valueOf(found + v)
                                : Integer.valueOf(name.equals("top") ? Math.max(found, v)
                                : Math.min(found, v));
                    }
                }
            }
            return found;
        });
    }

    private Part moved(int depth) {
        name("at");
        Part inner = expression(depth - 1);
        int[] by = new int[2];
        for (int k = 0; k < 2; k++) {
            sign(",");
            space();
            by[k] = random.nextInt(5) == 0 ? random.nextInt(101) - 50 : random.nextInt(5) - 2;
            text.append(by[k]);
        }
        sign(")");
        return kept((i, j) -> {
            int x = i + by[0];
            int y = j + by[1];
            return x < 0 || x >= w || y < 0 || y >= h ? null : inner.at(x, y);
        });
    }

    private Part one(String name, Part inner) {
        return kept((i, j) -> {
            Integer v = inner.at(i, j);
            if (name.equals("blank")) {
                return v == null ? 1 : 0;
            }
            return v == null ? null : Integer.valueOf(name.equals("-") ? -v : Math.abs(v));
        });
    }

    private Part both(String name, Part left, Part right) {
        return kept((i, j) -> {
            Integer l = left.at(i, j);
            Integer r = right.at(i, j);
            if (name.equals("or")) {
                return l == null ? r : l;
            }
            return l == null || r == null ? null : worked(name, l, r);
        });
    }

    private static Integer worked(String name, long l, long r) {
        switch (name) {
            case "+":
                return (int) (l + r);
            case "-":
                return (int) (l - r);
            case "*":
                return (int) (l * r);
            case "/":
                return r == 0 ? null : Integer.valueOf((int) (l / r));
            case "%":
                return r == 0 ? null : Integer.valueOf((int) (l % r));
            case "<":
                return l < r ? 1 : 0;
            case "<=":
                return l <= r ? 1 : 0;
            case ">":
                return l > r ? 1 : 0;
            case ">=":
                return l >= r ? 1 : 0;
            case "=":
                return l == r ? 1 : 0;
            case "#":
                return l != r ? 1 : 0;
            case "min":
                return (int) Math.min(l, r);
            default:
                return (int) Math.max(l, r);
        }
    }

    // Each cell of a part is worked out once, as parts stand in windows of windows.
    private Part kept(Part part) {
        Integer[] values = new Integer[w * h];
        boolean[] known = new boolean[w * h];
        return (i, j) -> {
            int k = j * w + i;
            if (!known[k]) {
                values[k] = part.at(i, j);
                known[k] = true;
            }
            return values[k];
        };
    }

    private void name(String name) {
        text.append(name);
        sign("(");
    }

    private void sign(String sign) {
        space();
        text.append(sign);
        space();
    }

    private void space() {
        if (random.nextInt(6) == 0) {
            text.append(random.nextBoolean() ? ' ' : '\n');
        }
    }
}

import java.util.ArrayList;
import java.util.List;

/**
 * The document read once more, with nothing kept that could be reckoned again: every spring, force
 * and mass is asked for anew. RunsTest holds the class against it, bit by bit.
 */
final class PlainPlate {
    private record Beam(int x0, int y0, int x1, int y1, double height) {
        boolean holds(int x, int y) {
            return between(x, x0, x1) && between(y, y0, y1);
        }

        private static boolean between(int a, int one, int other) {
            return a >= Math.min(one, other) && a <= Math.max(one, other);
        }
    }

    private record Wish(int k, double square) {
    }

    private static final double GROUND = 0.0625;
    private static final int[][] NEIGHBOURS = {{1, 0}, {-1, 0}, {0, 1}, {0, -1}};

    private final int width;
    private final int height;
    private final double[][] thick;
    private double a = 1;
    private double b = 1;
    private double d = 1;
    private final List<Beam> beams = new ArrayList<>();
    private final List<Wish> wishes = new ArrayList<>();
    private List<double[][]> latest = new ArrayList<>();

    PlainPlate(int width, int height) {
        this.width = Math.min(6, Math.max(2, width));
        this.height = Math.min(6, Math.max(2, height));
        thick = new double[this.width][this.height];
        for (double[] column : thick) {
            java.util.Arrays.fill(column, 1);
        }
    }

    boolean wood(int x, int y, double t) {
        cell(x, y);
        if (t != 0) {
            range(t, 0.125, 8);
        }
        boolean other = thick[x][y] != t;
        thick[x][y] = t;
        if (other) {
            latest = new ArrayList<>();
        }
        return other;
    }

    void rates(double along, double across, double density) {
        range(along, 0.125, 8);
        range(across, 0.125, 8);
        range(density, 0.125, 8);
        a = along;
        b = across;
        d = density;
        latest = new ArrayList<>();
    }

    int brace(int x0, int y0, int x1, int y1, double h) {
        cell(x0, y0);
        cell(x1, y1);
        if (x0 != x1 && y0 != y1 || x0 == x1 && y0 == y1) {
            throw new IllegalArgumentException();
        }
        range(h, 0.125, 8);
        if (beams.size() == 12) {
            throw new IllegalStateException();
        }
        beams.add(new Beam(x0, y0, x1, y1, h));
        latest = new ArrayList<>();
        return beams.size();
    }

    int modes(int n) {
        if (n < 1 || n > 4) {
            throw new IllegalArgumentException();
        }
        latest = modesAnew(n);
        return latest.size();
    }

    double mode(int k, int what) {
        number(k, 3);
        number(what, 2);
        made(k);
        double[][] s = latest.get(k);
        return what == 0 ? squareOf(s) : what == 1 ? residueOf(s) : totalOf(s);
    }

    double shape(int k, int x, int y) {
        number(k, 3);
        cell(x, y);
        made(k);
        return latest.get(k)[x][y];
    }

    double product(int k, int other) {
        number(k, 3);
        number(other, 3);
        made(k);
        made(other);
        return productOf(latest.get(k), latest.get(other));
    }

    boolean mirrored(boolean alongX) {
        for (int y = 0; y < height; y++) {
            for (int x = 0; x < width; x++) {
                double other = alongX ? thick[width - 1 - x][y] : thick[x][height - 1 - y];
                if (thick[x][y] != other) {
                    return false;
                }
            }
        }
        return true;
    }

    double coupled(int k, double q, double h, boolean greater) {
        number(k, 3);
        range(q, 0, 8);
        range(h, 0, 8);
        made(k);
        double square = squareOf(latest.get(k));
        double s = totalOf(latest.get(k));
        double p = square + q * s * s + h;
        double under = p * p - 4 * square * h;
        return (greater ? p + root(under) : p - root(under)) / 2;
    }

    double weight() {
        double all = 0;
        for (int y = 0; y < height; y++) {
            for (int x = 0; x < width; x++) {
                all += thick[x][y] * d;
            }
        }
        return all;
    }

    int want(int k, double square) {
        number(k, 3);
        range(square, 0, 64);
        if (wishes.size() == 4) {
            throw new IllegalStateException();
        }
        wishes.add(new Wish(k, square));
        return wishes.size();
    }

    int thin(double step, double low) {
        range(step, 0.125, 1);
        range(low, 0.125, 8);
        double least = sumOver(modesAnew(needed()));
        if (least < 0) {
            throw new IllegalStateException();
        }
        int thinned = 0;
        for (int y = 0; y < height; y++) {
            for (int x = 0; x < width; x++) {
                double before = thick[x][y];
                if (before == 0 || before - step < low) {
                    continue;
                }
                thick[x][y] = before - step;
                double now = sumOver(modesAnew(needed()));
                if (now >= 0 && now < least) {
                    least = now;
                    thinned++;
                } else {
                    thick[x][y] = before;
                }
            }
        }
        latest = modesAnew(needed());
        return thinned;
    }

    double sum() {
        double sum = sumOver(latest);
        if (sum < 0) {
            throw new IllegalStateException();
        }
        return sum;
    }

    double tap(int k, int x, int y, double v) {
        number(k, 3);
        cell(x, y);
        range(v, 0, 64);
        made(k);
        double s = latest.get(k)[x][y];
        double square = squareOf(latest.get(k));
        return s * s / (1 + (v - square) * (v - square));
    }

    private int needed() {
        return wishes.stream().mapToInt(w -> w.k() + 1).max().orElse(0);
    }

    /** -1 where there is no such sum. */
    private double sumOver(List<double[][]> set) {
        if (wishes.isEmpty() || set.size() < needed()) {
            return -1;
        }
        double all = 0;
        for (Wish w : wishes) {
            double e = squareOf(set.get(w.k())) - w.square();
            all += e * e;
        }
        return all;
    }

    private List<double[][]> modesAnew(int n) {
        List<double[][]> set = new ArrayList<>();
        for (int k = 0; k < n; k++) {
            double[][] s = new double[width][height];
            for (int y = 0; y < height; y++) {
                for (int x = 0; x < width; x++) {
                    s[x][y] = thick[x][y] == 0 ? 0 : 1 + ((3 * x + 5 * y + 7 * k) % 11) / 8.0;
                }
            }
            for (int sweep = 0; sweep < 24; sweep++) {
                if (!swept(s, set)) {
                    return set;
                }
            }
            set.add(s);
        }
        return set;
    }

    private boolean swept(double[][] s, List<double[][]> lower) {
        for (int y = 0; y < height; y++) {
            for (int x = 0; x < width; x++) {
                if (thick[x][y] != 0) {
                    double held = GROUND;
                    for (int[] n : NEIGHBOURS) {
                        held += spring(x, y, n);
                    }
                    s[x][y] = s[x][y] + 0.5 * force(s, x, y) / held;
                }
            }
        }
        for (double[][] other : lower) {
            double share = productOf(s, other);
            for (int y = 0; y < height; y++) {
                for (int x = 0; x < width; x++) {
                    s[x][y] = s[x][y] - share * other[x][y];
                }
            }
        }
        double size = root(productOf(s, s));
        if (size == 0) {
            return false;
        }
        for (double[] column : s) {
            for (int y = 0; y < height; y++) {
                column[y] = column[y] / size;
            }
        }
        return true;
    }

    private double spring(int x, int y, int[] n) {
        int u = x + n[0];
        int v = y + n[1];
        if (u < 0 || u >= width || v < 0 || v >= height || thick[x][y] == 0 || thick[u][v] == 0) {
            return 0;
        }
        double t = (thick[x][y] + thick[u][v]) / 2;
        double spring = (n[0] != 0 ? a : b) * t * t * t;
        for (Beam beam : beams) {
            if (beam.holds(x, y) && beam.holds(u, v)) {
                spring += beam.height();
            }
        }
        return spring;
    }

    private double force(double[][] s, int x, int y) {
        double all = 0;
        for (int[] n : NEIGHBOURS) {
            double spring = spring(x, y, n);
            if (spring != 0) {
                all += spring * (s[x + n[0]][y + n[1]] - s[x][y]);
            }
        }
        return all - GROUND * s[x][y];
    }

    private double productOf(double[][] one, double[][] other) {
        double all = 0;
        for (int y = 0; y < height; y++) {
            for (int x = 0; x < width; x++) {
                if (thick[x][y] != 0) {
                    all += thick[x][y] * d * one[x][y] * other[x][y];
                }
            }
        }
        return all;
    }

    private double squareOf(double[][] s) {
        double all = 0;
        for (int y = 0; y < height; y++) {
            for (int x = 0; x < width; x++) {
                if (thick[x][y] != 0) {
                    all += s[x][y] * force(s, x, y);
                }
            }
        }
        return -all;
    }

    private double residueOf(double[][] s) {
        double square = squareOf(s);
        double greatest = 0;
        for (int y = 0; y < height; y++) {
            for (int x = 0; x < width; x++) {
                if (thick[x][y] != 0) {
                    double left = force(s, x, y) + square * (thick[x][y] * d) * s[x][y];
                    greatest = Math.max(greatest, Math.abs(left));
                }
            }
        }
        return greatest;
    }

    private double totalOf(double[][] s) {
        double all = 0;
        for (int y = 0; y < height; y++) {
            for (int x = 0; x < width; x++) {
                if (thick[x][y] != 0) {
                    all += s[x][y];
                }
            }
        }
        return all;
    }

    static double root(double v) {
        if (!(v > 0)) {
            return 0;
        }
        double r = 1 + v;
        for (int i = 0; i < 30; i++) {
            r = (r + v / r) / 2;
        }
        return r;
    }

    private void cell(int x, int y) {
        number(x, width - 1);
        number(y, height - 1);
    }

    private static void number(int k, int last) {
        if (k < 0 || k > last) {
            throw new IndexOutOfBoundsException();
        }
    }

    private static void range(double v, double least, double most) {
        if (!(v >= least && v <= most)) {
            throw new IllegalArgumentException();
        }
    }

    private void made(int k) {
        if (k >= latest.size()) {
            throw new IllegalStateException();
        }
    }
}

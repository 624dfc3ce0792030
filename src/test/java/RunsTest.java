import java.util.function.Supplier;

/** Long runs of calls, drawn by a written-out generator, held against PlainPlate bit by bit. */
final class RunsTest {
    private static final double[] THICK = {0, 0, 0.125, 0.25, 0.5, 0.3, 1, 1, 1.1, 1.75, 2.7, 8, -0.0};
    private static final double[] ODD = {0.124, 8.001, -1, 64.5, Double.NaN, Double.POSITIVE_INFINITY,
        Double.NEGATIVE_INFINITY, Double.MIN_VALUE, -Double.MAX_VALUE};

    private long seed;
    private final PlateModes plate;
    private final PlainPlate plain;
    private final int width;
    private final int height;
    private final StringBuilder calls = new StringBuilder();

    private RunsTest(long seed) {
        this.seed = seed * 0x9E3779B97F4A7C15L + 1;
        width = 2 + below(5);
        height = 2 + below(5);
        plate = new PlateModes(width, height);
        plain = new PlainPlate(width, height);
    }

    private int below(int bound) {
        seed = seed * 6364136223846793005L + 1442695040888963407L;
        return (int) ((seed >>> 33) % bound);
    }

    private int number(int bound) {
        return below(25) == 0 ? below(2) * (bound + 1) - 1 : below(bound);
    }

    private double amount(double most) {
        return below(25) == 0 ? ODD[below(ODD.length)] : 0.125 + below(1001) / 1000.0 * (most - 0.125);
    }

    private double thickness() {
        return below(25) == 0 ? ODD[below(ODD.length)] : THICK[below(THICK.length)];
    }

    private static String outcome(Supplier<Object> call) {
        try {
            Object answer = call.get();
            return answer instanceof Double d ? d + (d == 0 ? "" : "/" + Double.doubleToLongBits(d)) : answer.toString();
        } catch (RuntimeException e) {
            return e.getClass().getName();
        }
    }

    private boolean same(String call, Supplier<Object> got, Supplier<Object> due) {
        calls.append("    ").append(call).append('\n');
        String is = outcome(got).replace("-0.0", "0.0");
        String should = outcome(due).replace("-0.0", "0.0");
        if (is.equals(should)) {
            return true;
        }
        System.out.println("  " + width + " by " + height + ":\n" + calls + "  answered " + is + ", due is " + should);
        return false;
    }

    private boolean change() {
        int x = number(width);
        int y = number(height);
        switch (below(8)) {
            case 0: {
                double a = amount(8);
                double b = amount(8);
                double d = amount(8);
                return same("rates(" + a + ", " + b + ", " + d + ")", () -> {
                    plate.rates(a, b, d);
                    return "done";
                }, () -> {
                    plain.rates(a, b, d);
                    return "done";
                });
            }
            case 1: {
                boolean alongX = below(2) == 0;
                int u = alongX || below(9) == 0 ? number(width) : x;
                int v = alongX && below(9) != 0 ? y : number(height);
                double h = amount(8);
                return same("brace(" + x + ", " + y + ", " + u + ", " + v + ", " + h + ")",
                    () -> plate.brace(x, y, u, v, h), () -> plain.brace(x, y, u, v, h));
            }
            default: {
                double t = thickness();
                return same("wood(" + x + ", " + y + ", " + t + ")", () -> plate.wood(x, y, t), () -> plain.wood(x, y, t));
            }
        }
    }

    private boolean make() {
        if (below(4) != 0) {
            int n = below(20) == 0 ? below(2) * 5 : 1 + below(4);
            return same("modes(" + n + ")", () -> plate.modes(n), () -> plain.modes(n));
        }
        if (below(3) == 0) {
            int k = number(4);
            double square = below(9) == 0 ? amount(64) : amount(3);
            return same("want(" + k + ", " + square + ")", () -> plate.want(k, square), () -> plain.want(k, square));
        }
        double step = below(2) == 0 ? 0.125 : amount(1);
        double low = below(2) == 0 ? 0.125 : amount(2);
        return same("thin(" + step + ", " + low + ")", () -> plate.thin(step, low), () -> plain.thin(step, low));
    }

    private boolean ask() {
        int k = number(4);
        int x = number(width);
        int y = number(height);
        switch (below(8)) {
            case 0: {
                int what = number(3);
                return same("mode(" + k + ", " + what + ")", () -> plate.mode(k, what), () -> plain.mode(k, what));
            }
            case 1:
                return same("shape(" + k + ", " + x + ", " + y + ")", () -> plate.shape(k, x, y), () -> plain.shape(k, x, y));
            case 2: {
                int other = number(4);
                return same("product(" + k + ", " + other + ")", () -> plate.product(k, other), () -> plain.product(k, other));
            }
            case 3: {
                boolean alongX = below(2) == 0;
                return same("mirrored(" + alongX + ")", () -> plate.mirrored(alongX), () -> plain.mirrored(alongX));
            }
            case 4: {
                double q = below(5) == 0 ? 0 : amount(8);
                double h = below(5) == 0 ? 0 : amount(8);
                boolean greater = below(2) == 0;
                return same("coupled(" + k + ", " + q + ", " + h + ", " + greater + ")",
                    () -> plate.coupled(k, q, h, greater), () -> plain.coupled(k, q, h, greater));
            }
            case 5:
                return same("weight()", () -> plate.weight(), () -> plain.weight());
            case 6:
                return same("sum()", () -> plate.sum(), () -> plain.sum());
            default: {
                double v = below(5) == 0 ? 0 : amount(64);
                return same("tap(" + k + ", " + x + ", " + y + ", " + v + ")",
                    () -> plate.tap(k, x, y, v), () -> plain.tap(k, x, y, v));
            }
        }
    }

    /** Some wood away at the start, so that plates with fewer cells than modes come too. */
    private boolean carve() {
        int kept = 1 + below(6);
        for (int y = 0; y < height; y++) {
            for (int x = 0; x < width; x++) {
                int u = x;
                int v = y;
                if (below(kept) == 0 && !same("wood(" + u + ", " + v + ", 0)",
                    () -> plate.wood(u, v, 0), () -> plain.wood(u, v, 0))) {
                    return false;
                }
            }
        }
        return true;
    }

    private boolean holds() {
        boolean right = below(2) == 0 || carve();
        for (int call = 0; call < 400 && right; call++) {
            int kind = below(10);
            right = kind == 0 ? change() : kind == 1 ? make() : ask();
        }
        return right;
    }

    public static void main(String[] args) {
        for (int run = 1; run <= 400; run++) {
            Check.same("run " + run + " is as the plain plate's", new RunsTest(run).holds(), true);
        }
        Check.finish("RunsTest");
    }
}

/** Promises 10 and 15: air coupled with a mode, and taps. */
final class AirAndTapPromiseTest {
    private static final double NAN = Double.NaN;
    private static final double ENDLESS = Double.POSITIVE_INFINITY;

    public static void main(String[] args) {
        promise10TellsBothCoupledSquares();
        promise10TakesTheEdgesOfAirAndHole();
        promise10ShowsWhereTheRootHasNotSettled();
        promise10RefusesInTheNamedOrder();
        promise15TapsAtAPlace();
        promise15RefusesInTheNamedOrder();
        Check.finish("AirAndTapPromiseTest");
    }

    private static PlateModes unevenPlate() {
        PlateModes plate = new PlateModes(3, 4);
        plate.rates(2, 0.5, 0.9);
        plate.wood(0, 0, 0);
        plate.wood(2, 1, 1.7);
        plate.wood(1, 3, 0.4);
        plate.modes(3);
        return plate;
    }

    private static void promise10TellsBothCoupledSquares() {
        PlateModes plate = unevenPlate();
        for (int k = 0; k < 3; k++) {
            double square = plate.mode(k, 0);
            double s = plate.mode(k, 2);
            for (double q : new double[] {0, 0.3, 1, 8}) {
                for (double h : new double[] {0, 0.7, 3, 8}) {
                    double p = square + q * s * s + h;
                    double d = PlainPlate.root(p * p - 4 * square * h);
                    String call = "coupled(" + k + ", " + q + ", " + h + ", ";
                    double lesser = plate.coupled(k, q, h, false);
                    double greater = plate.coupled(k, q, h, true);
                    Check.same(call + "false)", lesser, (p - d) / 2);
                    Check.same(call + "true)", greater, (p + d) / 2);
                    Check.near(call + "..) together", lesser + greater, p);
                    Check.near(call + "..) multiplied", lesser * greater, square * h);
                }
            }
        }
    }

    private static void promise10TakesTheEdgesOfAirAndHole() {
        PlateModes plate = unevenPlate();
        double square = plate.mode(0, 0);
        Check.near("without air the lesser is the mode's", plate.coupled(0, 0, 8, false), square);
        Check.near("without air the greater is the hole's", plate.coupled(0, 0, 8, true), 8);
        Check.near("without a hole the lesser is 0", plate.coupled(0, 8, 0, false), 0);
        PlateModes single = new PlateModes(2, 2);
        single.wood(0, 0, 0);
        single.wood(1, 1, 0);
        single.wood(0, 1, 0);
        single.wood(1, 0, 0.125);
        single.modes(1);
        Check.same("coupled(0, 8, 8, false) of one cell", single.coupled(0, 8, 8, false), 0.055214463959039506);
        Check.same("coupled(0, 0, 0, true) of one cell", single.coupled(0, 0, 0, true), 0.5000000000000001);
    }

    /** Where both squares are nearly one, ROOT is asked of next to nothing, and thirty steps show. */
    private static void promise10ShowsWhereTheRootHasNotSettled() {
        PlateModes plate = unevenPlate();
        double square = plate.mode(0, 0);
        for (double off : new double[] {2e-8, 1e-8, 5e-9}) {
            double h = square + off;
            double p = square + h;
            double d = p * p - 4 * square * h;
            Check.same("ROOT is asked of a little", d > 0 && d < 1e-13, true);
            Check.same("coupled(0, 0, square + " + off + ", false)", plate.coupled(0, 0, h, false), (p - PlainPlate.root(d)) / 2);
            Check.same("coupled(0, 0, square + " + off + ", true)", plate.coupled(0, 0, h, true), (p + PlainPlate.root(d)) / 2);
        }
    }

    private static void promise10RefusesInTheNamedOrder() {
        PlateModes plate = new PlateModes(3, 3);
        Check.state("coupled(0, 1, 1, true) before modes()", () -> plate.coupled(0, 1, 1, true));
        Check.argument("coupled(0, 9, 1, true) before modes()", () -> plate.coupled(0, 9, 1, true));
        Check.index("coupled(4, 9, 1, true) before modes()", () -> plate.coupled(4, 9, 1, true));
        plate.modes(2);
        Check.index("coupled(-1, 1, 1, true)", () -> plate.coupled(-1, 1, 1, true));
        Check.index("coupled(4, NaN, 1, true)", () -> plate.coupled(4, NAN, 1, true));
        for (double v : new double[] {-0.001, 8.001, NAN, ENDLESS, -ENDLESS}) {
            Check.argument("coupled(0, " + v + ", 1, true)", () -> plate.coupled(0, v, 1, true));
            Check.argument("coupled(0, 1, " + v + ", true)", () -> plate.coupled(0, 1, v, true));
            Check.argument("coupled(3, 1, " + v + ", true)", () -> plate.coupled(3, 1, v, true));
        }
        Check.state("coupled(2, 1, 1, true)", () -> plate.coupled(2, 1, 1, true));
        Check.fine("coupled(1, 1, 1, true)", () -> plate.coupled(1, 1, 1, true));
        plate.brace(0, 0, 1, 0, 1);
        Check.state("coupled(0, 1, 1, true) after a brace", () -> plate.coupled(0, 1, 1, true));
    }

    private static void promise15TapsAtAPlace() {
        PlateModes plate = unevenPlate();
        for (int k = 0; k < 3; k++) {
            double square = plate.mode(k, 0);
            for (double v : new double[] {0, 0.05, square, 3, 64}) {
                for (int cell = 0; cell < 12; cell++) {
                    double s = plate.shape(k, cell % 3, cell / 3);
                    Check.same("tap(" + k + ", " + cell % 3 + ", " + cell / 3 + ", " + v + ")",
                        plate.tap(k, cell % 3, cell / 3, v), s * s / (1 + (v - square) * (v - square)));
                }
            }
        }
        Check.same("a tap where no wood is", plate.tap(0, 0, 0, 1), 0.0);
        PlateModes even = new PlateModes(3, 3);
        even.modes(1);
        double there = even.shape(0, 2, 1);
        Check.same("a tap at the mode's own square", even.tap(0, 2, 1, even.mode(0, 0)), there * there);
    }

    private static void promise15RefusesInTheNamedOrder() {
        PlateModes plate = new PlateModes(3, 4);
        Check.state("tap(0, 0, 0, 1) before modes()", () -> plate.tap(0, 0, 0, 1));
        Check.argument("tap(0, 0, 0, 65) before modes()", () -> plate.tap(0, 0, 0, 65));
        Check.index("tap(0, 3, 0, 65) before modes()", () -> plate.tap(0, 3, 0, 65));
        plate.modes(2);
        int[][] off = {{-1, 0, 0}, {4, 0, 0}, {0, -1, 0}, {0, 3, 0}, {0, 0, -1}, {0, 0, 4}};
        for (int[] c : off) {
            Check.index("tap(" + c[0] + ", " + c[1] + ", " + c[2] + ", 1)", () -> plate.tap(c[0], c[1], c[2], 1));
        }
        for (double v : new double[] {-0.001, 64.001, NAN, ENDLESS, -ENDLESS}) {
            Check.argument("tap(0, 0, 0, " + v + ")", () -> plate.tap(0, 0, 0, v));
            Check.argument("tap(3, 0, 0, " + v + ")", () -> plate.tap(3, 0, 0, v));
        }
        Check.state("tap(2, 2, 3, 1)", () -> plate.tap(2, 2, 3, 1));
        Check.fine("tap(1, 2, 3, 64)", () -> plate.tap(1, 2, 3, 64));
        Check.fine("tap(1, 2, 3, 0)", () -> plate.tap(1, 2, 3, 0));
    }
}

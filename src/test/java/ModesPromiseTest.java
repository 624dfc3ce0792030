/** Promises 5 to 8: modes made, what they tell, their shapes and products. */
final class ModesPromiseTest {
    private static final double GROUND = 0.0625;

    public static void main(String[] args) {
        promise5MakesAsManyAsTold();
        promise5MakesFewerWhereOneIsNone();
        promise5RefusesOtherCounts();
        promise6TellsSquareResidueAndSum();
        promise6FollowsFromTheShapes();
        promise6RefusesInTheNamedOrder();
        promise7TellsTheShapeAtACell();
        promise7FollowsFromSweepsDoneByHand();
        promise7RefusesInTheNamedOrder();
        promise8MultipliesByMass();
        promise8RefusesInTheNamedOrder();
        Check.finish("ModesPromiseTest");
    }

    private static PlateModes singleCell(double thick, double density) {
        PlateModes plate = new PlateModes(2, 2);
        plate.wood(0, 0, 0);
        plate.wood(0, 1, 0);
        plate.wood(1, 1, 0);
        plate.wood(1, 0, thick);
        plate.rates(1, 1, density);
        return plate;
    }

    private static void promise5MakesAsManyAsTold() {
        PlateModes plate = new PlateModes(3, 3);
        for (int n = 4; n >= 1; n--) {
            Check.same("modes(" + n + ")", plate.modes(n), n);
            int last = n - 1;
            int beyond = n;
            Check.fine("mode(" + last + ", 0) after modes(" + n + ")", () -> plate.mode(last, 0));
            if (n < 4) {
                Check.state("mode(" + beyond + ", 0) after modes(" + n + ")", () -> plate.mode(beyond, 0));
            }
        }
        PlateModes other = new PlateModes(3, 3);
        other.modes(4);
        plate.modes(2);
        Check.same("mode 1 is the same, however many are made", plate.mode(1, 0), other.mode(1, 0));
        plate.modes(4);
        Check.same("mode 3 is the same when made again", plate.mode(3, 1), other.mode(3, 1));
    }

    private static void promise5MakesFewerWhereOneIsNone() {
        PlateModes single = singleCell(1, 1);
        Check.same("modes(4) on one cell", single.modes(4), 1);
        Check.same("modes(1) on one cell", single.modes(1), 1);
        Check.state("mode(1, 0) on one cell", () -> single.mode(1, 0));
        single.wood(0, 1, 8);
        single.wood(1, 0, 0.125);
        Check.same("modes(4) on two cells apart", single.modes(4), 2);
        PlateModes bare = singleCell(0, 1);
        Check.same("modes(4) on no wood", bare.modes(4), 0);
        Check.same("modes(1) on no wood", bare.modes(1), 0);
        Check.state("mode(0, 0) on no wood", () -> bare.mode(0, 0));
    }

    private static void promise5RefusesOtherCounts() {
        PlateModes plate = new PlateModes(3, 3);
        plate.modes(3);
        for (int n : new int[] {0, 5, -1, Integer.MIN_VALUE, Integer.MAX_VALUE}) {
            Check.argument("modes(" + n + ")", () -> plate.modes(n));
        }
        Check.fine("mode(2, 0) after refused modes()", () -> plate.mode(2, 0));
    }

    private static void promise6TellsSquareResidueAndSum() {
        PlateModes single = singleCell(2, 0.5);
        single.modes(1);
        Check.near("square of one cell", single.mode(0, 0), GROUND);
        Check.near("residue of one cell", single.mode(0, 1), 0);
        Check.near("sum of one cell", single.mode(0, 2), 1);
        PlateModes light = singleCell(0.5, 0.5);
        light.modes(1);
        Check.near("square of one light cell", light.mode(0, 0), GROUND * 4);
        Check.near("sum of one light cell", light.mode(0, 2), 2);
        PlateModes plate = new PlateModes(3, 3);
        plate.modes(2);
        Check.same("mode(0, 0) of 3 by 3", plate.mode(0, 0), 0.06265529931057831);
        Check.same("mode(0, 1) of 3 by 3", plate.mode(0, 1), 0.010142591692452851);
        Check.same("mode(0, 2) of 3 by 3", plate.mode(0, 2), 2.9998442445976123);
        Check.same("mode(1, 0) of 3 by 3", plate.mode(1, 0), 1.1062260300016524);
        Check.same("mode(1, 1) of 3 by 3", plate.mode(1, 1), 0.19214337879369087);
        Check.same("mode(1, 2) of 3 by 3", plate.mode(1, 2), -0.022671319079768104);
    }

    private static double stretch(double stiffness, double one, double other) {
        double t = (one + other) / 2;
        return stiffness * t * t * t;
    }

    /** A row of two cells and one cell below the first: the springs are written out by hand. */
    private static void promise6FollowsFromTheShapes() {
        PlateModes plate = new PlateModes(2, 2);
        plate.rates(3, 0.7, 1.3);
        plate.wood(0, 0, 0.9);
        plate.wood(1, 0, 1.6);
        plate.wood(0, 1, 2.3);
        plate.wood(1, 1, 0);
        Check.same("modes(3) on three cells", plate.modes(3), 3);
        double right = stretch(3, 0.9, 1.6);
        double below = stretch(0.7, 0.9, 2.3);
        double[] mass = {0.9 * 1.3, 1.6 * 1.3, 2.3 * 1.3};
        for (int k = 0; k < 3; k++) {
            double a = plate.shape(k, 0, 0);
            double b = plate.shape(k, 1, 0);
            double c = plate.shape(k, 0, 1);
            double[] shape = {a, b, c};
            double[] force = {right * (b - a) + below * (c - a) - GROUND * a,
                right * (a - b) - GROUND * b, below * (a - c) - GROUND * c};
            double square = -(a * force[0] + b * force[1] + c * force[2]);
            double residue = 0;
            for (int i = 0; i < 3; i++) {
                residue = Math.max(residue, Math.abs(force[i] + square * mass[i] * shape[i]));
            }
            Check.same("square of mode " + k, plate.mode(k, 0), square);
            Check.same("residue of mode " + k, plate.mode(k, 1), residue);
            Check.same("sum of mode " + k, plate.mode(k, 2), a + b + c);
        }
    }

    private static void promise6RefusesInTheNamedOrder() {
        PlateModes plate = new PlateModes(3, 3);
        Check.state("mode(0, 0) before modes()", () -> plate.mode(0, 0));
        for (int k : new int[] {-1, 4, Integer.MIN_VALUE, Integer.MAX_VALUE}) {
            Check.index("mode(" + k + ", 0) before modes()", () -> plate.mode(k, 0));
        }
        Check.index("mode(0, -1) before modes()", () -> plate.mode(0, -1));
        Check.index("mode(0, 3) before modes()", () -> plate.mode(0, 3));
        plate.modes(2);
        Check.index("mode(0, -1)", () -> plate.mode(0, -1));
        Check.index("mode(0, 3)", () -> plate.mode(0, 3));
        Check.index("mode(4, 0)", () -> plate.mode(4, 0));
        Check.state("mode(3, 2)", () -> plate.mode(3, 2));
        plate.want(0, 1);
        Check.fine("mode(1, 2) after want()", () -> plate.mode(1, 2));
    }

    private static void promise7TellsTheShapeAtACell() {
        PlateModes plate = new PlateModes(3, 3);
        plate.modes(1);
        double[] due = {0.3367383233481688, 0.33668316896383815, 0.3315464843880652,
            0.3367611310644516, 0.33670597099782695, 0.3315634100573589,
            0.3316622474868827, 0.33162129200804275, 0.32656221628297727};
        for (int cell = 0; cell < 9; cell++) {
            int x = cell % 3;
            int y = cell / 3;
            Check.same("shape(0, " + x + ", " + y + ")", plate.shape(0, x, y), due[cell]);
        }
        PlateModes single = singleCell(0.125, 1);
        single.modes(1);
        Check.same("shape on wood", single.shape(0, 1, 0), 2.8284271247461903);
        Check.same("shape where no wood is", single.shape(0, 0, 0), 0.0);
        Check.same("shape where no wood is, on the other side", single.shape(0, 1, 1), 0.0);
    }

    /** Cells that no spring holds: each halves in a sweep, so the sweeps can be done by hand. */
    private static void promise7FollowsFromSweepsDoneByHand() {
        PlateModes plate = new PlateModes(2, 2);
        plate.wood(1, 0, 0);
        plate.wood(0, 1, 0);
        plate.wood(0, 0, 2);
        plate.modes(2);
        double[] mass = {2, 1};
        double[] first = {1, 1 + 8 / 8.0};
        double[] second = {1 + 7 / 8.0, 1 + 4 / 8.0};
        for (int sweep = 0; sweep < 24; sweep++) {
            halve(first);
            norm(first, mass);
        }
        for (int sweep = 0; sweep < 24; sweep++) {
            halve(second);
            double share = mass[0] * second[0] * first[0] + mass[1] * second[1] * first[1];
            second[0] = second[0] - share * first[0];
            second[1] = second[1] - share * first[1];
            norm(second, mass);
        }
        Check.same("shape(0, 0, 0) of two cells apart", plate.shape(0, 0, 0), first[0]);
        Check.same("shape(0, 1, 1) of two cells apart", plate.shape(0, 1, 1), first[1]);
        Check.same("shape(1, 0, 0) of two cells apart", plate.shape(1, 0, 0), second[0]);
        Check.same("shape(1, 1, 1) of two cells apart", plate.shape(1, 1, 1), second[1]);
    }

    private static void halve(double[] shape) {
        for (int i = 0; i < shape.length; i++) {
            shape[i] = shape[i] + 0.5 * (0 - GROUND * shape[i]) / GROUND;
        }
    }

    private static void norm(double[] shape, double[] mass) {
        double product = mass[0] * shape[0] * shape[0] + mass[1] * shape[1] * shape[1];
        double root = PlainPlate.root(product);
        shape[0] = shape[0] / root;
        shape[1] = shape[1] / root;
    }

    private static void promise7RefusesInTheNamedOrder() {
        PlateModes plate = new PlateModes(3, 4);
        Check.state("shape(0, 0, 0) before modes()", () -> plate.shape(0, 0, 0));
        Check.index("shape(0, 3, 0) before modes()", () -> plate.shape(0, 3, 0));
        plate.modes(2);
        int[][] off = {{-1, 0, 0}, {4, 0, 0}, {0, -1, 0}, {0, 3, 0}, {0, 0, -1}, {0, 0, 4}, {3, 3, 4},
            {Integer.MIN_VALUE, 0, 0}, {0, Integer.MAX_VALUE, 0}, {0, 0, Integer.MIN_VALUE}};
        for (int[] c : off) {
            Check.index("shape(" + c[0] + ", " + c[1] + ", " + c[2] + ")", () -> plate.shape(c[0], c[1], c[2]));
        }
        Check.fine("shape(1, 2, 3)", () -> plate.shape(1, 2, 3));
        Check.state("shape(2, 2, 3)", () -> plate.shape(2, 2, 3));
        plate.rates(1, 1, 1);
        Check.state("shape(0, 0, 0) after rates()", () -> plate.shape(0, 0, 0));
    }

    private static void promise8MultipliesByMass() {
        PlateModes plate = new PlateModes(2, 2);
        plate.rates(1, 1, 0.7);
        double[] thick = {0.9, 1.6, 2.3, 0};
        for (int cell = 0; cell < 4; cell++) {
            plate.wood(cell % 2, cell / 2, thick[cell]);
        }
        plate.modes(3);
        for (int k = 0; k < 3; k++) {
            for (int other = 0; other < 3; other++) {
                double due = 0;
                for (int cell = 0; cell < 4; cell++) {
                    due += thick[cell] * 0.7 * plate.shape(k, cell % 2, cell / 2) * plate.shape(other, cell % 2, cell / 2);
                }
                Check.same("product(" + k + ", " + other + ")", plate.product(k, other), due);
                Check.near("product(" + k + ", " + other + ")", plate.product(k, other), k == other ? 1 : 0);
            }
        }
        PlateModes even = new PlateModes(3, 3);
        even.modes(2);
        Check.same("product(0, 0) of 3 by 3", even.product(0, 0), 1.0000000000000002);
        Check.same("product(0, 1) of 3 by 3", even.product(0, 1), 1.1102230246251565E-16);
    }

    private static void promise8RefusesInTheNamedOrder() {
        PlateModes plate = new PlateModes(3, 3);
        Check.state("product(0, 0) before modes()", () -> plate.product(0, 0));
        plate.modes(2);
        for (int k : new int[] {-1, 4, Integer.MIN_VALUE, Integer.MAX_VALUE}) {
            Check.index("product(" + k + ", 0)", () -> plate.product(k, 0));
            Check.index("product(0, " + k + ")", () -> plate.product(0, k));
            Check.index("product(3, " + k + ") names the mode first", () -> plate.product(3, k));
        }
        Check.state("product(2, 0)", () -> plate.product(2, 0));
        Check.state("product(0, 2)", () -> plate.product(0, 2));
        Check.fine("product(1, 0)", () -> plate.product(1, 0));
    }
}

/** Promises 12 to 14: wanted modes, thinning towards them, and their sum. */
final class ThinPromiseTest {
    private static final double NAN = Double.NaN;
    private static final double ENDLESS = Double.POSITIVE_INFINITY;

    public static void main(String[] args) {
        promise12CountsUpTo4();
        promise12RefusesInTheNamedOrder();
        promise13KeepsWhatLessensTheSum();
        promise13StopsAtLow();
        promise13MakesTheModesItNeeds();
        promise13RefusesAndChangesNothing();
        promise13LeavesAGapAlone();
        promise13DoesNotKeepATryWithoutAWantedMode();
        promise14AddsUpWhatIsMissed();
        promise14RefusesWhereModesAreNotMade();
        Check.finish("ThinPromiseTest");
    }

    private static void promise12CountsUpTo4() {
        PlateModes plate = new PlateModes(3, 3);
        Check.same("want(3, 64)", plate.want(3, 64), 1);
        Check.same("want(0, 0)", plate.want(0, 0), 2);
        Check.same("want(0, 0) again", plate.want(0, 0), 3);
        Check.same("want(1, 2.5)", plate.want(1, 2.5), 4);
        Check.state("a fifth", () -> plate.want(1, 2.5));
        Check.argument("a fifth at no square", () -> plate.want(1, 65));
        Check.index("a fifth of no mode", () -> plate.want(4, 65));
    }

    private static void promise12RefusesInTheNamedOrder() {
        PlateModes plate = new PlateModes(3, 3);
        for (int k : new int[] {-1, 4, Integer.MIN_VALUE, Integer.MAX_VALUE}) {
            Check.index("want(" + k + ", 1)", () -> plate.want(k, 1));
            Check.index("want(" + k + ", 65)", () -> plate.want(k, 65));
        }
        for (double square : new double[] {-0.001, 64.001, NAN, ENDLESS, -ENDLESS}) {
            Check.argument("want(0, " + square + ")", () -> plate.want(0, square));
        }
        plate.modes(2);
        Check.same("refused ones are not counted", plate.want(1, 1), 1);
        Check.fine("mode(1, 0) after want()", () -> plate.mode(1, 0));
    }

    /** Thicknesses told to a new plate, so that its answers hold for them alone. */
    private static PlateModes plateOf(double[] thick, double[][] wishes) {
        PlateModes plate = new PlateModes(4, 3);
        plate.rates(1.5, 0.75, 1.25);
        plate.brace(0, 1, 3, 1, 0.5);
        for (int cell = 0; cell < 12; cell++) {
            plate.wood(cell % 4, cell / 4, thick[cell]);
        }
        for (double[] wish : wishes) {
            plate.want((int) wish[0], wish[1]);
        }
        return plate;
    }

    private static double sumOf(double[] thick, double[][] wishes) {
        PlateModes plate = plateOf(thick, wishes);
        plate.modes(4);
        return plate.sum();
    }

    private static int thinByHand(double[] thick, double[][] wishes, double step, double low) {
        int thinned = 0;
        for (int cell = 0; cell < 12; cell++) {
            double before = thick[cell];
            if (before > 0 && before - step >= low) {
                double sum = sumOf(thick, wishes);
                thick[cell] = before - step;
                if (sumOf(thick, wishes) < sum) {
                    thinned++;
                } else {
                    thick[cell] = before;
                }
            }
        }
        return thinned;
    }

    private static void promise13KeepsWhatLessensTheSum() {
        double[][][] wants = {{{0, 0.04}}, {{1, 0.3}, {0, 0.25}}, {{2, 0.5}, {2, 0.75}, {0, 0}, {1, 1}}, {{3, 0.5}}};
        for (double[][] wishes : wants) {
            double[] thick = {1, 1.5, 0, 2, 0.25, 1, 1, 0.8, 3, 1.1, 0.125, 1};
            PlateModes plate = plateOf(thick, wishes);
            for (int round = 1; round <= 3; round++) {
                int due = thinByHand(thick, wishes, 0.2, 0.25);
                Check.same("thin(0.2, 0.25), round " + round, plate.thin(0.2, 0.25), due);
                Check.same("sum() after round " + round, plate.sum(), sumOf(thick, wishes));
                Check.same("weight() after round " + round, plate.weight(), plateOf(thick, wishes).weight());
            }
            for (int cell = 0; cell < 12; cell++) {
                Check.same("thickness of cell " + cell, plate.wood(cell % 4, cell / 4, thick[cell]), false);
            }
        }
    }

    private static void promise13StopsAtLow() {
        PlateModes plate = new PlateModes(4, 4);
        plate.want(0, 0.125);
        Check.same("thin(0.125, 1)", plate.thin(0.125, 1), 0);
        Check.same("thin(0.125, 8)", plate.thin(0.125, 8), 0);
        Check.same("weight() after no thinning", plate.weight(), 16.0);
        Check.same("thin(0.125, 0.875), just to LOW", plate.thin(0.125, 0.875), 16);
        Check.same("weight() after it", plate.weight(), 14.0);
        Check.same("thin(0.125, 0.875) again", plate.thin(0.125, 0.875), 0);
        Check.same("thin(0.125, 0.125)", plate.thin(0.125, 0.125), 16);
        Check.same("thin(1, 0.125) is too much", plate.thin(1, 0.125), 0);
        PlateModes other = new PlateModes(3, 2);
        other.want(0, 0);
        Check.same("thin(0.125, 0.125) away from the wanted square", other.thin(0.125, 0.125), 0);
        Check.same("weight() is as before", other.weight(), 6.0);
    }

    private static void promise13MakesTheModesItNeeds() {
        PlateModes plate = new PlateModes(4, 3);
        plate.modes(4);
        plate.want(1, 0.5);
        plate.want(0, 0.125);
        plate.thin(0.125, 0.125);
        Check.fine("mode(1, 0) after thin()", () -> plate.mode(1, 0));
        Check.state("mode(2, 0) after thin()", () -> plate.mode(2, 0));
        Check.fine("sum() after thin()", plate::sum);
        double square = plate.mode(1, 0);
        plate.modes(2);
        Check.same("thin() made modes of the wood as it left it", plate.mode(1, 0), square);
        plate.rates(2, 1, 1);
        Check.state("sum() after rates()", plate::sum);
        plate.thin(0.125, 8);
        Check.fine("sum() after thin() that thins nothing", plate::sum);
        plate.want(3, 1);
        Check.state("sum() with one more wanted", plate::sum);
        plate.thin(0.125, 8);
        Check.fine("mode(3, 0) after thin()", () -> plate.mode(3, 0));
    }

    private static void promise13RefusesAndChangesNothing() {
        PlateModes plate = new PlateModes(3, 2);
        plate.modes(2);
        Check.state("thin(0.5, 0.5) with none wanted", () -> plate.thin(0.5, 0.5));
        for (double step : new double[] {0, 0.1249, 1.001, -1, NAN, ENDLESS, -ENDLESS}) {
            Check.argument("thin(" + step + ", 1) with none wanted", () -> plate.thin(step, 1));
        }
        for (double low : new double[] {0, 0.1249, 8.001, -1, NAN, ENDLESS, -ENDLESS}) {
            Check.argument("thin(1, " + low + ") with none wanted", () -> plate.thin(1, low));
        }
        plate.want(3, 0);
        for (int cell = 2; cell < 6; cell++) {
            plate.wood(cell % 3, cell / 3, 0);
        }
        Check.same("modes(2) on two cells", plate.modes(2), 2);
        double square = plate.mode(1, 0);
        double shape = plate.shape(1, 1, 0);
        Check.state("thin(0.125, 0.125) with a wanted mode none", () -> plate.thin(0.125, 0.125));
        Check.same("mode(1, 0) after refused thin()", plate.mode(1, 0), square);
        Check.same("shape(1, 1, 0) after refused thin()", plate.shape(1, 1, 0), shape);
        Check.same("weight() after refused thin()", plate.weight(), 2.0);
        plate.wood(0, 0, 2);
        Check.state("thin(0.125, 0.125) on other wood", () -> plate.thin(0.125, 0.125));
        Check.state("mode(0, 0) of other wood after it", () -> plate.mode(0, 0));
        PlateModes emptied = new PlateModes(2, 2);
        emptied.want(0, 1);
        Check.fine("thin(0.125, 0.125) of four cells", () -> emptied.thin(0.125, 0.125));
        for (int cell = 0; cell < 4; cell++) {
            emptied.wood(cell % 2, cell / 2, 0);
        }
        Check.state("thin(0.125, 0.125) of none", () -> emptied.thin(0.125, 0.125));
    }

    private static void promise13LeavesAGapAlone() {
        PlateModes plate = new PlateModes(2, 2);
        plate.wood(0, 0, 0);
        plate.want(0, 64);
        Check.same("thin(0.125, 0.125) with a gap", plate.thin(0.125, 0.125), 3);
        Check.same("the gap is still there", plate.wood(0, 0, 0), false);
        Check.same("weight() of the other three", plate.weight(), 2.625);
    }

    /**
     * Mode 2 of these two cells is what rounding leaves, and no more of it is left when one is
     * thinner: there is no sum then that could be less, and the call as a whole is not refused.
     */
    private static void promise13DoesNotKeepATryWithoutAWantedMode() {
        double[] thinner = {0.125, 3.25};
        Check.same("modes(3) on thinner cells", twoCells(thinner).modes(3), 2);
        PlateModes plate = twoCells(new double[] {0.125, 3.375});
        Check.same("modes(3) on two cells", plate.modes(3), 3);
        plate.want(2, 0);
        Check.same("thin(0.125, 0.125)", plate.thin(0.125, 0.125), 0);
        Check.same("weight() is as before", plate.weight(), 3.5);
        Check.fine("mode(2, 0) after thin()", () -> plate.mode(2, 0));
    }

    private static PlateModes twoCells(double[] thick) {
        PlateModes plate = new PlateModes(2, 2);
        plate.wood(0, 0, thick[0]);
        plate.wood(1, 0, thick[1]);
        plate.wood(0, 1, 0);
        plate.wood(1, 1, 0);
        return plate;
    }

    private static void promise14AddsUpWhatIsMissed() {
        PlateModes plate = new PlateModes(3, 3);
        plate.modes(3);
        plate.want(2, 0.3);
        double first = plate.mode(2, 0) - 0.3;
        Check.same("sum() of one", plate.sum(), first * first);
        plate.want(0, 0.7);
        plate.want(2, 5.1);
        plate.want(1, 0);
        double second = plate.mode(0, 0) - 0.7;
        double third = plate.mode(2, 0) - 5.1;
        double fourth = plate.mode(1, 0);
        Check.same("sum() of four", plate.sum(), first * first + second * second + third * third + fourth * fourth);
        plate.modes(4);
        Check.same("sum() where more are made than wanted", plate.sum(),
            first * first + second * second + third * third + fourth * fourth);
    }

    private static void promise14RefusesWhereModesAreNotMade() {
        PlateModes plate = new PlateModes(3, 3);
        plate.modes(4);
        Check.state("sum() with none wanted", plate::sum);
        plate.want(1, 1);
        Check.fine("sum() with one wanted", plate::sum);
        plate.modes(1);
        Check.state("sum() after modes(1)", plate::sum);
        plate.modes(2);
        Check.fine("sum() after modes(2)", plate::sum);
        plate.wood(0, 0, 1);
        Check.fine("sum() after the same wood", plate::sum);
        plate.wood(0, 0, 2);
        Check.state("sum() after other wood", plate::sum);
        plate.modes(2);
        plate.rates(1, 1, 1);
        Check.state("sum() after rates()", plate::sum);
        plate.modes(2);
        plate.brace(0, 0, 0, 2, 1);
        Check.state("sum() after a brace", plate::sum);
    }
}

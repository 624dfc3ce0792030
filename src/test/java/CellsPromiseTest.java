/** Promises 1 to 4, 9 and 11: the plate as it is made, its wood, rates, braces, mirrors and weight. */
final class CellsPromiseTest {
    private static final double NAN = Double.NaN;
    private static final double ENDLESS = Double.POSITIVE_INFINITY;

    public static void main(String[] args) {
        promise1SidesAreTheNearestOf2To6();
        promise1StartsWithAllCellsAndRates1();
        promise2TellsWhetherTheThicknessIsAnother();
        promise2RefusesWhatIsNoCellOrThickness();
        promise3SetsAllThreeRates();
        promise3RefusesRatesOutsideBounds();
        promise4CountsUpTo12();
        promise4RefusesInTheNamedOrder();
        promise4StiffensOnlyItsOwnSprings();
        promise9SeesBothMirrors();
        promise11WeighsAllCells();
        Check.finish("CellsPromiseTest");
    }

    private static void hasSides(PlateModes plate, int width, int height) {
        String size = width + " by " + height;
        Check.fine(size + ": last cell", () -> plate.wood(width - 1, height - 1, 1));
        Check.index(size + ": beside it", () -> plate.wood(width, height - 1, 1));
        Check.index(size + ": below it", () -> plate.wood(width - 1, height, 1));
    }

    private static void promise1SidesAreTheNearestOf2To6() {
        hasSides(new PlateModes(2, 6), 2, 6);
        hasSides(new PlateModes(6, 2), 6, 2);
        hasSides(new PlateModes(3, 5), 3, 5);
        hasSides(new PlateModes(1, 7), 2, 6);
        hasSides(new PlateModes(7, 1), 6, 2);
        hasSides(new PlateModes(0, -1), 2, 2);
        hasSides(new PlateModes(Integer.MIN_VALUE, Integer.MAX_VALUE), 2, 6);
        hasSides(new PlateModes(Integer.MAX_VALUE, Integer.MIN_VALUE), 6, 2);
    }

    private static void promise1StartsWithAllCellsAndRates1() {
        PlateModes plate = new PlateModes(4, 3);
        Check.same("NONE", PlateModes.NONE, -1);
        Check.same("weight() of 12 cells", plate.weight(), 12.0);
        for (int y = 0; y < 3; y++) {
            for (int x = 0; x < 4; x++) {
                Check.same("wood(x, y, 1) on a new plate", plate.wood(x, y, 1), false);
            }
        }
        Check.state("mode(0, 0) on a new plate", () -> plate.mode(0, 0));
        Check.state("sum() on a new plate", plate::sum);
        PlateModes told = new PlateModes(4, 3);
        told.rates(1, 1, 1);
        sameModes("rates(1, 1, 1) on a new plate", plate, told);
        Check.same("want(0, 1) is the first", plate.want(0, 1), 1);
        Check.same("brace is the first", plate.brace(0, 0, 1, 0, 1), 1);
    }

    private static void promise2TellsWhetherTheThicknessIsAnother() {
        PlateModes plate = new PlateModes(3, 2);
        Check.same("wood(2, 1, 0.125)", plate.wood(2, 1, 0.125), true);
        Check.same("wood(2, 1, 0.125) again", plate.wood(2, 1, 0.125), false);
        Check.same("wood(2, 1, 8)", plate.wood(2, 1, 8), true);
        Check.same("wood(2, 1, 0)", plate.wood(2, 1, 0), true);
        Check.same("wood(2, 1, -0)", plate.wood(2, 1, -0.0), false);
        Check.same("wood(2, 1, 1)", plate.wood(2, 1, 1), true);
        Check.same("wood(1, 0, 1) is untouched", plate.wood(1, 0, 1), false);
        plate.modes(2);
        plate.wood(0, 0, 1);
        Check.fine("mode(1, 0) after the same thickness", () -> plate.mode(1, 0));
        plate.wood(0, 0, 2);
        Check.state("mode(1, 0) after another thickness", () -> plate.mode(1, 0));
        plate.wood(0, 0, 1);
        Check.state("mode(1, 0) after the old thickness again", () -> plate.mode(1, 0));
    }

    private static void promise2RefusesWhatIsNoCellOrThickness() {
        PlateModes plate = new PlateModes(3, 2);
        plate.modes(1);
        Check.index("wood(-1, 0, 1)", () -> plate.wood(-1, 0, 1));
        Check.index("wood(3, 0, 1)", () -> plate.wood(3, 0, 1));
        Check.index("wood(0, -1, 1)", () -> plate.wood(0, -1, 1));
        Check.index("wood(0, 2, 1)", () -> plate.wood(0, 2, 1));
        Check.index("wood(0, 2, 9) names the cell first", () -> plate.wood(0, 2, 9));
        Check.index("wood(MAX, MIN, NaN)", () -> plate.wood(Integer.MAX_VALUE, Integer.MIN_VALUE, NAN));
        for (double thick : new double[] {0.1249, 8.001, -1, -0.125, Double.MIN_VALUE, NAN, ENDLESS, -ENDLESS}) {
            Check.argument("wood(0, 0, " + thick + ")", () -> plate.wood(0, 0, thick));
        }
        Check.same("weight() after refused wood", plate.weight(), 6.0);
        Check.fine("mode(0, 0) after refused wood", () -> plate.mode(0, 0));
    }

    private static void promise3SetsAllThreeRates() {
        PlateModes plate = new PlateModes(2, 2);
        plate.modes(1);
        plate.rates(1, 1, 1);
        Check.state("mode(0, 0) after rates(), the same ones too", () -> plate.mode(0, 0));
        Check.fine("rates(0.125, 0.125, 0.125)", () -> plate.rates(0.125, 0.125, 0.125));
        Check.same("weight() by density 0.125", plate.weight(), 0.5);
        Check.fine("rates(8, 8, 8)", () -> plate.rates(8, 8, 8));
        Check.same("weight() by density 8", plate.weight(), 32.0);

        // On wood 1 thick a spring is the stiffness itself, so braces by 2 on all lines are a stiffness of 3.
        PlateModes along = new PlateModes(3, 2);
        along.rates(3, 1, 1);
        PlateModes bracedRows = new PlateModes(3, 2);
        bracedRows.brace(0, 0, 2, 0, 2);
        bracedRows.brace(0, 1, 2, 1, 2);
        sameModes("rates(3, 1, 1)", along, bracedRows);
        PlateModes across = new PlateModes(3, 2);
        across.rates(1, 3, 1);
        PlateModes bracedColumns = new PlateModes(3, 2);
        for (int x = 0; x < 3; x++) {
            bracedColumns.brace(x, 0, x, 1, 2);
        }
        sameModes("rates(1, 3, 1)", across, bracedColumns);
        Check.same("along and across differ", along.mode(1, 0) == across.mode(1, 0), false);
    }

    private static void promise3RefusesRatesOutsideBounds() {
        PlateModes plate = new PlateModes(2, 2);
        plate.modes(1);
        for (double rate : new double[] {0, 0.1249, 8.001, -1, NAN, ENDLESS, -ENDLESS}) {
            Check.argument("rates(" + rate + ", 1, 2)", () -> plate.rates(rate, 1, 2));
            Check.argument("rates(1, " + rate + ", 2)", () -> plate.rates(1, rate, 2));
            Check.argument("rates(2, 2, " + rate + ")", () -> plate.rates(2, 2, rate));
        }
        Check.same("weight() after refused rates", plate.weight(), 4.0);
        Check.fine("mode(0, 0) after refused rates", () -> plate.mode(0, 0));
    }

    private static void promise4CountsUpTo12() {
        PlateModes plate = new PlateModes(4, 4);
        for (int brace = 1; brace <= 12; brace++) {
            Check.same("brace " + brace, plate.brace(0, 0, 3, 0, 0.125), brace);
        }
        plate.modes(1);
        Check.state("brace 13", () -> plate.brace(0, 0, 3, 0, 0.125));
        Check.argument("brace 13 too high", () -> plate.brace(0, 0, 3, 0, 9));
        Check.index("brace 13 off the plate", () -> plate.brace(0, 0, 4, 0, 1));
        Check.fine("mode(0, 0) after refused braces", () -> plate.mode(0, 0));
        PlateModes other = new PlateModes(2, 2);
        other.modes(1);
        Check.same("brace 0.125 high", other.brace(0, 0, 1, 0, 0.125), 1);
        Check.state("mode(0, 0) after a brace", () -> other.mode(0, 0));
        Check.same("brace 8 high", other.brace(0, 0, 0, 1, 8), 2);
    }

    private static void promise4RefusesInTheNamedOrder() {
        PlateModes plate = new PlateModes(4, 3);
        int[][] off = {{-1, 0, 1, 0}, {4, 0, 1, 0}, {0, -1, 0, 1}, {0, 3, 0, 1},
            {0, 0, -1, 0}, {0, 0, 4, 0}, {0, 0, 0, -1}, {0, 0, 0, 3}, {4, 3, 4, 3}};
        for (int[] c : off) {
            Check.index("brace off the plate", () -> plate.brace(c[0], c[1], c[2], c[3], 1));
            Check.index("brace off the plate, too high", () -> plate.brace(c[0], c[1], c[2], c[3], 9));
        }
        Check.argument("brace of one cell", () -> plate.brace(1, 1, 1, 1, 1));
        Check.argument("brace askew", () -> plate.brace(0, 0, 1, 1, 1));
        Check.argument("brace askew by a knight's move", () -> plate.brace(3, 0, 1, 1, 1));
        for (double high : new double[] {0, 0.1249, 8.001, -1, NAN, ENDLESS, -ENDLESS}) {
            Check.argument("brace " + high + " high", () -> plate.brace(0, 0, 1, 0, high));
        }
        Check.same("refused braces are not counted", plate.brace(0, 0, 1, 0, 1), 1);
    }

    private static void promise4StiffensOnlyItsOwnSprings() {
        int[][] lines = {{0, 0, 2, 0}, {2, 0, 0, 0}, {1, 2, 3, 2}, {3, 1, 2, 1},
            {0, 0, 0, 2}, {3, 2, 3, 0}, {1, 1, 1, 2}, {2, 1, 2, 0}};
        PlateModes all = new PlateModes(4, 3);
        PlainPlate plainAll = new PlainPlate(4, 3);
        for (int[] c : lines) {
            PlateModes plate = new PlateModes(4, 3);
            PlainPlate plain = new PlainPlate(4, 3);
            plate.brace(c[0], c[1], c[2], c[3], 0.7);
            plain.brace(c[0], c[1], c[2], c[3], 0.7);
            Answers.likePlain("one brace", plate, plain, 4, 3, 3);
            all.brace(c[0], c[1], c[2], c[3], 0.3);
            plainAll.brace(c[0], c[1], c[2], c[3], 0.3);
        }
        Answers.likePlain("crossing braces", all, plainAll, 4, 3, 3);
        all.wood(1, 0, 0);
        plainAll.wood(1, 0, 0);
        Answers.likePlain("braces over a gap", all, plainAll, 4, 3, 3);
        all.wood(1, 0, 2);
        plainAll.wood(1, 0, 2);
        Answers.likePlain("braces over new wood", all, plainAll, 4, 3, 3);

        PlateModes longest = new PlateModes(6, 6);
        PlainPlate plainLongest = new PlainPlate(6, 6);
        longest.brace(0, 5, 5, 5, 1.5);
        plainLongest.brace(0, 5, 5, 5, 1.5);
        longest.brace(5, 5, 5, 0, 2.5);
        plainLongest.brace(5, 5, 5, 0, 2.5);
        Answers.likePlain("braces from end to end", longest, plainLongest, 6, 6, 3);

        PlateModes gap = new PlateModes(3, 2);
        gap.wood(1, 0, 0);
        PlateModes bracedGap = new PlateModes(3, 2);
        bracedGap.wood(1, 0, 0);
        bracedGap.brace(0, 0, 2, 0, 8);
        sameModes("a brace over a gap holds nothing", gap, bracedGap);
    }

    private static void promise9SeesBothMirrors() {
        PlateModes plate = new PlateModes(5, 4);
        mirrors("new", plate, true, true);
        plate.wood(0, 1, 2);
        mirrors("one cell other", plate, false, false);
        plate.wood(4, 1, 2);
        mirrors("its fellow along x", plate, true, false);
        plate.wood(0, 2, 2);
        mirrors("one more", plate, false, false);
        plate.wood(4, 2, 2);
        mirrors("all four", plate, true, true);
        plate.wood(0, 1, 1);
        plate.wood(0, 2, 1);
        mirrors("the right two", plate, false, true);
        plate.wood(2, 3, 0);
        mirrors("a gap in the middle column", plate, false, false);
        plate.wood(2, 0, 0);
        mirrors("a gap on both ends of it", plate, false, true);
        PlateModes corner = new PlateModes(2, 2);
        corner.wood(0, 0, 2);
        mirrors("a corner", corner, false, false);
        corner.wood(1, 0, 2);
        mirrors("two corners above", corner, true, false);
        PlateModes rated = new PlateModes(3, 3);
        rated.rates(2, 3, 4);
        rated.brace(0, 0, 1, 0, 1);
        mirrors("rates and braces do not count", rated, true, true);
    }

    private static void mirrors(String call, PlateModes plate, boolean alongX, boolean alongY) {
        Check.same(call + ": mirrored(true)", plate.mirrored(true), alongX);
        Check.same(call + ": mirrored(false)", plate.mirrored(false), alongY);
    }

    private static void promise11WeighsAllCells() {
        PlateModes plate = new PlateModes(2, 3);
        Check.same("weight() at first", plate.weight(), 6.0);
        plate.wood(1, 2, 0.5);
        Check.same("weight() thinner", plate.weight(), 5.5);
        plate.rates(1, 1, 2);
        Check.same("weight() denser", plate.weight(), 11.0);
        plate.wood(0, 0, 0);
        Check.same("weight() with a gap", plate.weight(), 9.0);
        // The sum of each THICKNESS * DENSITY; the sum of thicknesses by DENSITY has other last bits.
        PlateModes even = new PlateModes(2, 3);
        even.rates(1, 1, 1.1);
        Check.same("weight() cell by cell", even.weight(), 1.1 + 1.1 + 1.1 + 1.1 + 1.1 + 1.1);
        Check.same("weight() cell by cell is another than at once", even.weight() == 6 * 1.1, false);
        PlateModes uneven = new PlateModes(2, 2);
        uneven.wood(0, 0, 0.3);
        uneven.wood(1, 0, 0.6);
        uneven.wood(0, 1, 7.1);
        uneven.wood(1, 1, 0);
        Check.same("weight() row by row", uneven.weight(), 0.3 + 0.6 + 7.1);
        Check.same("weight() row by row is another than column by column", uneven.weight() == 0.3 + 7.1 + 0.6, false);
        for (int cell = 0; cell < 6; cell++) {
            plate.wood(cell % 2, cell / 2, 0);
        }
        Check.same("weight() of no wood", plate.weight(), 0.0);
    }

    private static void sameModes(String call, PlateModes one, PlateModes other) {
        Check.same(call + ": modes", one.modes(4), other.modes(4));
        for (int k = 0; k < 4; k++) {
            for (int what = 0; what < 3; what++) {
                Check.same(call + ": mode(" + k + ", " + what + ")", one.mode(k, what), other.mode(k, what));
            }
        }
    }
}

import java.util.function.DoubleConsumer;
import java.util.function.IntConsumer;

/** Sizes, numbers, cells and modes at their bounds and just beyond, a method for each sentence that names some. */
final class BoundsTest {
    private static final int LEAST = Integer.MIN_VALUE;
    private static final int MOST = Integer.MAX_VALUE;
    private static final int WIDTH = 4;
    private static final int HEIGHT = 3;

    public static void main(String[] args) {
        promise1SidesAreTheNearestOf2To6();
        promise2CellsEndWhereThePlateDoes();
        promise2ThickIs0OrWithinItsBounds();
        promise2ThickAtItsBoundsIsTheThickness();
        promise3EachRateIsWithinItsBounds();
        promise3RatesAtTheirBoundsAreTheRates();
        promise4BothCellsAreOnThePlate();
        promise4CellsAreTwoOnOneLine();
        promise4HeightIsWithinItsBounds();
        promise4HeightAtItsBoundsIsTheHeight();
        promise5TakesOneToFour();
        promise5SpringsJoinNeighboursAloneAndEndAtTheSides();
        promise6TakesFourModesAndThreeWhats();
        promise7TakesFourModesAndAllCells();
        promise8TakesFourModesTwice();
        promise10TakesFourModes();
        promise10AirAndHoleAreWithinTheirBounds();
        promise10RootOfNothingAndLessIs0();
        promise12TakesFourModes();
        promise12SquareIsWithinItsBounds();
        promise12SquareAtItsBoundsIsWanted();
        promise13StepAndLowAreWithinTheirBounds();
        promise13ThinsDownToLowAndNotBelow();
        promise13ThinsByTheLeastAndTheGreatestStep();
        promise13KeepsNoTryThatLeavesTheSumTheSame();
        promise15TakesFourModesAndAllCells();
        promise15NumberIsWithinItsBounds();
        promise15TapsAtTheBoundsOfItsNumber();
        anObjectAnswers512Calls();
        Check.finish("BoundsTest");
    }

    /** A number between two bounds is taken, and refused just beyond each, far off, or as no number. */
    private static void within(String call, double least, double most, DoubleConsumer ask) {
        for (double v : new double[] {least, Math.nextUp(least), Math.nextDown(most), most}) {
            Check.fine(call + " with " + v, () -> ask.accept(v));
        }
        for (double v : new double[] {Math.nextDown(least), Math.nextUp(most), -most, least - 1, most + 1,
            Double.MAX_VALUE, -Double.MAX_VALUE, Double.NaN, Double.POSITIVE_INFINITY, Double.NEGATIVE_INFINITY}) {
            Check.argument(call + " with " + v, () -> ask.accept(v));
        }
    }

    /** An index of 0 to last is taken, and none before, behind or far off. */
    private static void indexed(String call, int last, IntConsumer ask) {
        for (int i = 0; i <= last; i++) {
            int at = i;
            Check.fine(call + " at " + at, () -> ask.accept(at));
        }
        for (int at : new int[] {-1, last + 1, LEAST, MOST}) {
            Check.index(call + " at " + at, () -> ask.accept(at));
        }
    }

    private static PlateModes plate() {
        return new PlateModes(WIDTH, HEIGHT);
    }

    private static PlateModes plateWithModes() {
        PlateModes plate = plate();
        plate.modes(4);
        return plate;
    }

    /** One cell of wood, whose mode 0 is 1 there, its SQUARE and the sum of its shape without a rounded bit. */
    private static PlateModes oneCell() {
        PlateModes plate = new PlateModes(2, 2);
        plate.wood(1, 0, 0);
        plate.wood(0, 1, 0);
        plate.wood(1, 1, 0);
        return plate;
    }

    private static void promise1SidesAreTheNearestOf2To6() {
        int[][] sides = {{LEAST, 2}, {-1, 2}, {0, 2}, {1, 2}, {2, 2}, {3, 3}, {4, 4}, {5, 5}, {6, 6}, {7, 6}, {8, 6}, {MOST, 6}};
        for (int[] w : sides) {
            for (int[] h : sides) {
                PlateModes plate = new PlateModes(w[0], h[0]);
                String made = "new PlateModes(" + w[0] + ", " + h[0] + ")";
                Check.same(made + ": weight()", plate.weight(), (double) (w[1] * h[1]));
                Check.fine(made + ": the last cell", () -> plate.wood(w[1] - 1, h[1] - 1, 1));
                Check.index(made + ": beside it", () -> plate.wood(w[1], h[1] - 1, 1));
                Check.index(made + ": below it", () -> plate.wood(w[1] - 1, h[1], 1));
            }
        }
    }

    private static void promise2CellsEndWhereThePlateDoes() {
        PlateModes plate = plate();
        indexed("wood, x", WIDTH - 1, x -> plate.wood(x, 0, 1));
        indexed("wood, y", HEIGHT - 1, y -> plate.wood(0, y, 1));
        Check.fine("wood at the last cell", () -> plate.wood(WIDTH - 1, HEIGHT - 1, 1));
    }

    private static void promise2ThickIs0OrWithinItsBounds() {
        PlateModes plate = plate();
        within("wood", 0.125, 8, thick -> plate.wood(1, 1, thick));
        Check.fine("wood with 0", () -> plate.wood(1, 1, 0));
        Check.fine("wood with -0", () -> plate.wood(1, 1, -0.0));
        Check.argument("wood with next to nothing", () -> plate.wood(1, 1, Double.MIN_VALUE));
        Check.argument("wood with next to nothing below 0", () -> plate.wood(1, 1, -Double.MIN_VALUE));
    }

    private static void promise2ThickAtItsBoundsIsTheThickness() {
        PlateModes plate = plate();
        PlainPlate plain = new PlainPlate(WIDTH, HEIGHT);
        double weight = WIDTH * HEIGHT - 1;
        for (double thick : new double[] {0.125, 8, 0, Math.nextUp(0.125), Math.nextDown(8.0), -0.0}) {
            Check.same("wood(2, 1, " + thick + ") is another", plate.wood(2, 1, thick), true);
            Check.same("wood(2, 1, " + thick + ") is the same", plate.wood(2, 1, thick), false);
            plain.wood(2, 1, thick);
            Check.near("weight() with " + thick, plate.weight(), weight + thick);
            Answers.likePlain("wood(2, 1, " + thick + ")", plate, plain, WIDTH, HEIGHT, 2);
        }
        Check.same("wood(2, 1, 0) is as thick as -0", plate.wood(2, 1, 0), false);
    }

    private static void promise3EachRateIsWithinItsBounds() {
        PlateModes plate = plate();
        within("rates, along", 0.125, 8, along -> plate.rates(along, 1, 1));
        within("rates, across", 0.125, 8, across -> plate.rates(1, across, 1));
        within("rates, density", 0.125, 8, density -> plate.rates(1, 1, density));
        Check.argument("rates with 0 along", () -> plate.rates(0, 1, 1));
        Check.argument("rates with 0 across", () -> plate.rates(1, 0, 1));
        Check.argument("rates with no density", () -> plate.rates(1, 1, 0));
    }

    private static void promise3RatesAtTheirBoundsAreTheRates() {
        double[][] rates = {{0.125, 8, 1}, {8, 0.125, 1}, {8, 8, 8}, {0.125, 0.125, 0.125}, {8, 0.125, 0.125}};
        for (double[] r : rates) {
            PlateModes plate = plate();
            PlainPlate plain = new PlainPlate(WIDTH, HEIGHT);
            plate.rates(r[0], r[1], r[2]);
            plain.rates(r[0], r[1], r[2]);
            String call = "rates(" + r[0] + ", " + r[1] + ", " + r[2] + ")";
            Check.same(call + ": weight()", plate.weight(), 12 * r[2]);
            Answers.likePlain(call, plate, plain, WIDTH, HEIGHT, 2);
        }
    }

    private static void promise4BothCellsAreOnThePlate() {
        for (int[] off : new int[][] {{-1, 0}, {WIDTH, 0}, {0, -1}, {0, HEIGHT}, {LEAST, 0}, {0, LEAST}, {MOST, 0}, {0, MOST}}) {
            PlateModes plate = plate();
            String cell = off[0] + ", " + off[1];
            Check.index("brace from " + cell, () -> plate.brace(off[0], off[1], 0, 0, 1));
            Check.index("brace to " + cell, () -> plate.brace(0, 0, off[0], off[1], 1));
            Check.index("brace from and to " + cell, () -> plate.brace(off[0], off[1], off[0], off[1], 1));
            Check.same("brace from corner to corner", plate.brace(0, 0, WIDTH - 1, 0, 1), 1);
            Check.same("brace from the last corner", plate.brace(WIDTH - 1, HEIGHT - 1, WIDTH - 1, 0, 1), 2);
        }
    }

    private static void promise4CellsAreTwoOnOneLine() {
        for (int from = 0; from < WIDTH * HEIGHT; from++) {
            for (int to = 0; to < WIDTH * HEIGHT; to++) {
                int[] c = {from % WIDTH, from / WIDTH, to % WIDTH, to / WIDTH};
                PlateModes plate = plate();
                String call = "brace(" + c[0] + ", " + c[1] + ", " + c[2] + ", " + c[3] + ", 1)";
                if (from != to && (c[0] == c[2] || c[1] == c[3])) {
                    Check.same(call, plate.brace(c[0], c[1], c[2], c[3], 1), 1);
                } else {
                    Check.argument(call, () -> plate.brace(c[0], c[1], c[2], c[3], 1));
                }
            }
        }
    }

    private static void promise4HeightIsWithinItsBounds() {
        PlateModes plate = plate();
        within("brace, height", 0.125, 8, height -> plate.brace(0, 0, 1, 0, height));
        Check.argument("brace without a height", () -> plate.brace(0, 0, 1, 0, 0));
        Check.same("the four that were taken, and one more", plate.brace(0, 0, 1, 0, 1), 5);
    }

    private static void promise4HeightAtItsBoundsIsTheHeight() {
        for (double height : new double[] {0.125, 8}) {
            PlateModes plate = plate();
            PlainPlate plain = new PlainPlate(WIDTH, HEIGHT);
            plate.brace(0, 1, 3, 1, height);
            plain.brace(0, 1, 3, 1, height);
            plate.brace(2, 2, 2, 0, height);
            plain.brace(2, 2, 2, 0, height);
            Answers.likePlain("braces " + height + " high", plate, plain, WIDTH, HEIGHT, 2);
        }
    }

    private static void promise5TakesOneToFour() {
        PlateModes plate = plate();
        for (int n = 1; n <= 4; n++) {
            Check.same("modes(" + n + ")", plate.modes(n), n);
        }
        for (int n : new int[] {0, 5, -1, LEAST, MOST}) {
            Check.argument("modes(" + n + ")", () -> plate.modes(n));
        }
    }

    /**
     * Two cells that no spring joins keep the numbers that mode 0 begins with, one by the other, which
     * wrap around at eleven; a spring, one round the sides too, would draw them to each other.
     */
    private static void promise5SpringsJoinNeighboursAloneAndEndAtTheSides() {
        for (int one = 0; one < 36; one++) {
            for (int other = 0; other < one; other++) {
                PlateModes plate = new PlateModes(6, 6);
                for (int cell = 0; cell < 36; cell++) {
                    plate.wood(cell % 6, cell / 6, cell == one || cell == other ? 1 : 0);
                }
                plate.modes(1);
                double begun = beginning(one) * plate.shape(0, other % 6, other / 6)
                    - beginning(other) * plate.shape(0, one % 6, one / 6);
                boolean apart = begun < 1e-9 && begun > -1e-9;
                int far = Math.abs(one % 6 - other % 6) + Math.abs(one / 6 - other / 6);
                Check.same("cells " + other + " and " + one + " of 6 by 6 are apart", apart, far > 1);
            }
        }
    }

    private static double beginning(int cell) {
        return 1 + (3 * (cell % 6) + 5 * (cell / 6)) % 11 / 8.0;
    }

    private static void promise6TakesFourModesAndThreeWhats() {
        PlateModes plate = plateWithModes();
        indexed("mode, k", 3, k -> plate.mode(k, 0));
        indexed("mode, what", 2, what -> plate.mode(0, what));
        Check.fine("mode(3, 2)", () -> plate.mode(3, 2));
    }

    private static void promise7TakesFourModesAndAllCells() {
        PlateModes plate = plateWithModes();
        indexed("shape, k", 3, k -> plate.shape(k, 0, 0));
        indexed("shape, x", WIDTH - 1, x -> plate.shape(0, x, 0));
        indexed("shape, y", HEIGHT - 1, y -> plate.shape(0, 0, y));
        Check.fine("shape at the last cell", () -> plate.shape(3, WIDTH - 1, HEIGHT - 1));
    }

    private static void promise8TakesFourModesTwice() {
        PlateModes plate = plateWithModes();
        indexed("product, k", 3, k -> plate.product(k, 0));
        indexed("product, other", 3, other -> plate.product(0, other));
        Check.near("product(3, 3)", plate.product(3, 3), 1);
    }

    private static void promise10TakesFourModes() {
        PlateModes plate = plateWithModes();
        indexed("coupled, k", 3, k -> plate.coupled(k, 1, 1, true));
    }

    private static void promise10AirAndHoleAreWithinTheirBounds() {
        PlateModes plate = plateWithModes();
        within("coupled, q", 0, 8, q -> plate.coupled(0, q, 1, false));
        within("coupled, h", 0, 8, h -> plate.coupled(0, 1, h, true));
        Check.fine("coupled with -0 twice", () -> plate.coupled(0, -0.0, -0.0, true));
    }

    private static void promise10RootOfNothingAndLessIs0() {
        PlateModes one = oneCell();
        one.modes(1);
        Check.same("square of one cell", one.mode(0, 0), 0.0625);
        Check.same("the lesser where both are one", one.coupled(0, 0, 0.0625, false), 0.0625);
        Check.same("the greater where both are one", one.coupled(0, 0, 0.0625, true), 0.0625);
        Check.same("the lesser without air and hole", one.coupled(0, 0, 0, false), 0.0);
        Check.same("the greater without air and hole", one.coupled(0, 0, 0, true), 0.0625);

        // Here rounding makes d less than 0, and a ROOT that took it would answer anything.
        PlateModes plate = new PlateModes(2, 2);
        plate.modes(1);
        double square = plate.mode(0, 0);
        int below0 = 0;
        for (double h = square - 1e-15; h < square + 1e-15; h = Math.nextUp(h)) {
            double p = square + h;
            if (p * p - 4 * square * h < 0 && below0 < 40) {
                below0++;
                Check.same("coupled(0, 0, " + h + ", false)", plate.coupled(0, 0, h, false), p / 2);
                Check.same("coupled(0, 0, " + h + ", true)", plate.coupled(0, 0, h, true), p / 2);
            }
        }
        Check.same("ROOT was asked of less than 0", below0 > 0, true);
    }

    private static void promise12TakesFourModes() {
        PlateModes plate = plate();
        indexed("want, k", 3, k -> plate.want(k, 1));
    }

    private static void promise12SquareIsWithinItsBounds() {
        PlateModes plate = plate();
        within("want, square", 0, 64, square -> plate.want(0, square));
        Check.fine("want with -0", () -> plate().want(0, -0.0));
    }

    private static void promise12SquareAtItsBoundsIsWanted() {
        PlateModes plate = oneCell();
        plate.modes(1);
        plate.want(0, 0);
        Check.same("sum() with 0 wanted", plate.sum(), 0.0625 * 0.0625);
        plate.want(0, 64);
        Check.same("sum() with 64 wanted too", plate.sum(), 0.0625 * 0.0625 + (0.0625 - 64) * (0.0625 - 64));
    }

    private static void promise13StepAndLowAreWithinTheirBounds() {
        PlateModes plate = oneCell();
        plate.want(0, 1);
        within("thin, step", 0.125, 1, step -> plate.thin(step, 8));
        within("thin, low", 0.125, 8, low -> plate.thin(1, low));
        Check.argument("thin by 0", () -> plate.thin(0, 1));
        Check.argument("thin down to 0", () -> plate.thin(0.125, 0));
    }

    private static void promise13ThinsDownToLowAndNotBelow() {
        double[][] starts = {{1, 0.125, 0.875}, {8, 1, 7}, {8, 0.125, 7.875}, {1, 0.875, 0.125}, {1.125, 1, 0.125}};
        for (double[] s : starts) {
            PlateModes plate = oneCell();
            plate.wood(0, 0, s[0]);
            plate.want(0, 64);
            String call = s[0] + " thick, thin(" + s[1] + ", ";
            Check.same(call + "just above)", plate.thin(s[1], Math.nextUp(s[2])), 0);
            Check.same(call + "just above): weight()", plate.weight(), s[0]);
            Check.same(call + s[2] + ")", plate.thin(s[1], s[2]), 1);
            Check.same(call + s[2] + "): weight()", plate.weight(), s[2]);
            Check.same(call + s[2] + ") again", plate.thin(s[1], s[2]), 0);
        }
        PlateModes thick = oneCell();
        thick.wood(0, 0, 8);
        thick.want(0, 64);
        Check.same("8 thick, thin(0.125, 8)", thick.thin(0.125, 8), 0);
        PlateModes thinnest = oneCell();
        thinnest.wood(0, 0, 0.125);
        thinnest.want(0, 64);
        Check.same("0.125 thick, thin(0.125, 0.125)", thinnest.thin(0.125, 0.125), 0);
        Check.same("0.125 thick as before", thinnest.weight(), 0.125);
    }

    private static void promise13ThinsByTheLeastAndTheGreatestStep() {
        for (double step : new double[] {0.125, 1}) {
            PlateModes plate = plate();
            PlainPlate plain = new PlainPlate(WIDTH, HEIGHT);
            for (int cell = 0; cell < WIDTH * HEIGHT; cell++) {
                plate.wood(cell % WIDTH, cell / WIDTH, 8);
                plain.wood(cell % WIDTH, cell / WIDTH, 8);
            }
            plate.want(1, 30);
            plain.want(1, 30);
            int due = plain.thin(step, 0.125);
            Check.same("some cells are thinned by " + step, due > 0 && due < WIDTH * HEIGHT, true);
            Check.same("thin(" + step + ", 0.125)", plate.thin(step, 0.125), due);
            Check.same("sum() after it", plate.sum(), plain.sum());
            Answers.likePlain("thin(" + step + ", 0.125)", plate, plain, WIDTH, HEIGHT, 2);
        }
    }

    /** 0.0625 and 0.25 are the squares at 1 and at 0.25 thick: as far from the wanted one, each. */
    private static void promise13KeepsNoTryThatLeavesTheSumTheSame() {
        PlateModes plate = oneCell();
        plate.want(0, 0.15625);
        Check.same("thin(0.75, 0.125) to as great a sum", plate.thin(0.75, 0.125), 0);
        Check.same("weight() is as before", plate.weight(), 1.0);
        double sum = plate.sum();
        plate.wood(0, 0, 0.25);
        plate.modes(1);
        Check.same("sum() where it is thinner", plate.sum(), sum);
    }

    private static void promise15TakesFourModesAndAllCells() {
        PlateModes plate = plateWithModes();
        indexed("tap, k", 3, k -> plate.tap(k, 0, 0, 1));
        indexed("tap, x", WIDTH - 1, x -> plate.tap(0, x, 0, 1));
        indexed("tap, y", HEIGHT - 1, y -> plate.tap(0, 0, y, 1));
        Check.fine("tap at the last cell", () -> plate.tap(3, WIDTH - 1, HEIGHT - 1, 1));
    }

    private static void promise15NumberIsWithinItsBounds() {
        PlateModes plate = plateWithModes();
        within("tap, v", 0, 64, v -> plate.tap(0, 0, 0, v));
        Check.fine("tap with -0", () -> plate.tap(0, 0, 0, -0.0));
    }

    private static void promise15TapsAtTheBoundsOfItsNumber() {
        PlateModes plate = oneCell();
        plate.modes(1);
        Check.same("tap(0, 0, 0, 0)", plate.tap(0, 0, 0, 0), 1 / (1 + 0.0625 * 0.0625));
        Check.same("tap(0, 0, 0, 64)", plate.tap(0, 0, 0, 64), 1 / (1 + (64 - 0.0625) * (64 - 0.0625)));
        Check.same("tap(0, 0, 0, 0.0625)", plate.tap(0, 0, 0, 0.0625), 1.0);
    }

    private static void anObjectAnswers512Calls() {
        PlateModes plate = oneCell();
        Check.same("want(0, 64) as call 4", plate.want(0, 64), 1);
        for (int call = 5; call < 509; call += 2) {
            Check.same("modes(1) as call " + call, plate.modes(1), 1);
            Check.same("wood() as call " + (call + 1), plate.wood(0, 0, call % 4 == 1 ? 0.25 : 1), true);
        }
        Check.same("wood(0, 0, 1) as call 509", plate.wood(0, 0, 1), false);
        Check.same("modes(4) as call 510", plate.modes(4), 1);
        Check.same("mode(0, 0) as call 511", plate.mode(0, 0), 0.0625);
        Check.same("sum() as call 512", plate.sum(), (0.0625 - 64) * (0.0625 - 64));
    }
}

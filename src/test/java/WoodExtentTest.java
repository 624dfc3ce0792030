/** Plates without wood, with one cell of wood, and with all cells of wood, in each promise that looks at cells. */
final class WoodExtentTest {
    private static final double GROUND = 0.0625;
    private static final int[][] SIZES = {{2, 2}, {6, 6}, {3, 5}, {6, 2}, {2, 6}};

    public static void main(String[] args) {
        promise2TakesAllWoodAwayAndPutsItBack();
        promise4BracesAPlateWithoutWood();
        promise5MakesNoModeWithoutWood();
        promise9And11SeeAPlateWithoutWood();
        promise13And14RefuseAPlateWithoutWood();
        promise5MakesOneModeOfOneCell();
        promise6And7TellTheModeOfOneCell();
        promise4BraceOnOneCellOfWoodHoldsNothing();
        promise9And11SeeOneCell();
        promise10CouplesAirWithOneCell();
        promise13ThinsOneCell();
        promise5To8AreAsReadPlainlyWithAllCells();
        promise9And11SeeAllCells();
        promise10TakesAllCellsAsTheArea();
        promise13ThinsAllCells();
        Check.finish("WoodExtentTest");
    }

    private static PlateModes filled(int width, int height, double thick) {
        PlateModes plate = new PlateModes(width, height);
        for (int cell = 0; cell < width * height; cell++) {
            plate.wood(cell % width, cell / width, thick);
        }
        return plate;
    }

    private static PlateModes oneCell(int width, int height, int x, int y, double thick) {
        PlateModes plate = filled(width, height, 0);
        plate.wood(x, y, thick);
        return plate;
    }

    private static PlainPlate plainlyFilled(int width, int height, double thick) {
        PlainPlate plain = new PlainPlate(width, height);
        for (int cell = 0; cell < width * height; cell++) {
            plain.wood(cell % width, cell / width, thick);
        }
        return plain;
    }

    private static String size(int[] s) {
        return s[0] + " by " + s[1];
    }

    private static void promise2TakesAllWoodAwayAndPutsItBack() {
        PlateModes plate = new PlateModes(3, 2);
        for (double thick : new double[] {0, 1}) {
            for (int cell = 0; cell < 6; cell++) {
                Check.same("cell " + cell + " becomes " + thick, plate.wood(cell % 3, cell / 3, thick), true);
            }
            for (int cell = 0; cell < 6; cell++) {
                Check.same("cell " + cell + " is " + thick, plate.wood(cell % 3, cell / 3, thick), false);
            }
        }
        Answers.likePlain("wood away and back", plate, new PlainPlate(3, 2), 3, 2, 4);
    }

    private static void promise4BracesAPlateWithoutWood() {
        PlateModes plate = filled(3, 2, 0);
        for (int brace = 1; brace <= 12; brace++) {
            Check.same("brace " + brace + " without wood", plate.brace(0, 0, 2, 0, 0.5), brace);
        }
        Check.state("brace 13 without wood", () -> plate.brace(0, 0, 2, 0, 0.5));
        Check.same("modes(4) of braces alone", plate.modes(4), 0);
        Check.same("weight() of braces alone", plate.weight(), 0.0);
    }

    private static void promise5MakesNoModeWithoutWood() {
        for (int[] s : SIZES) {
            PlateModes plate = new PlateModes(s[0], s[1]);
            plate.modes(4);
            for (int cell = 0; cell < s[0] * s[1]; cell++) {
                plate.wood(cell % s[0], cell / s[0], 0);
            }
            for (int n = 1; n <= 4; n++) {
                Check.same(size(s) + " without wood: modes(" + n + ")", plate.modes(n), 0);
            }
            for (int k = 0; k < 4; k++) {
                int mode = k;
                Check.state(size(s) + " without wood: mode " + k, () -> plate.mode(mode, 0));
                Check.state(size(s) + " without wood: shape " + k, () -> plate.shape(mode, 0, 0));
                Check.state(size(s) + " without wood: product " + k, () -> plate.product(mode, mode));
                Check.state(size(s) + " without wood: coupled " + k, () -> plate.coupled(mode, 1, 1, true));
                Check.state(size(s) + " without wood: tap " + k, () -> plate.tap(mode, 0, 0, 1));
            }
        }
    }

    private static void promise9And11SeeAPlateWithoutWood() {
        for (int[] s : SIZES) {
            PlateModes plate = filled(s[0], s[1], 0);
            plate.rates(8, 8, 8);
            Check.same(size(s) + " without wood: weight()", plate.weight(), 0.0);
            Check.same(size(s) + " without wood: mirrored(true)", plate.mirrored(true), true);
            Check.same(size(s) + " without wood: mirrored(false)", plate.mirrored(false), true);
        }
    }

    private static void promise13And14RefuseAPlateWithoutWood() {
        PlateModes plate = filled(3, 2, 0);
        Check.state("thin() without wood and none wanted", () -> plate.thin(0.125, 0.125));
        plate.want(0, 0);
        plate.modes(4);
        Check.state("thin() without wood", () -> plate.thin(0.125, 0.125));
        Check.state("sum() without wood", plate::sum);
    }

    private static void promise5MakesOneModeOfOneCell() {
        for (int cell = 0; cell < 36; cell++) {
            PlateModes plate = oneCell(6, 6, cell % 6, cell / 6, 1);
            Check.same("modes(4) of cell " + cell + " alone", plate.modes(4), 1);
            for (int k = 1; k < 4; k++) {
                int mode = k;
                Check.state("mode(" + k + ", 0) of cell " + cell + " alone", () -> plate.mode(mode, 0));
            }
            Check.same("modes(1) of cell " + cell + " alone", plate.modes(1), 1);
        }
    }

    private static void promise6And7TellTheModeOfOneCell() {
        for (double thick : new double[] {0.125, 0.25, 1, 4, 8}) {
            double due = PlainPlate.root(1 / thick);
            for (int cell = 0; cell < 12; cell++) {
                PlateModes plate = oneCell(4, 3, cell % 4, cell / 4, thick);
                plate.modes(1);
                String call = "cell " + cell + " alone, " + thick + " thick: ";
                Check.near(call + "square", plate.mode(0, 0), GROUND / thick);
                Check.near(call + "residue", plate.mode(0, 1), 0);
                Check.near(call + "sum of the shape", plate.mode(0, 2), due);
                Check.near(call + "product with itself", plate.product(0, 0), 1);
                for (int other = 0; other < 12; other++) {
                    double shape = plate.shape(0, other % 4, other / 4);
                    if (other == cell) {
                        Check.near(call + "shape on it", shape, due);
                    } else {
                        Check.same(call + "shape beside it", shape, 0.0);
                    }
                }
            }
        }
    }

    private static void promise4BraceOnOneCellOfWoodHoldsNothing() {
        PlateModes free = oneCell(4, 3, 1, 1, 1);
        PlateModes braced = oneCell(4, 3, 1, 1, 1);
        braced.brace(0, 1, 3, 1, 8);
        braced.brace(1, 2, 1, 0, 8);
        free.modes(1);
        braced.modes(1);
        Check.same("a brace over one cell of wood", Answers.of(braced, 4, 3), Answers.of(free, 4, 3));
    }

    private static void promise9And11SeeOneCell() {
        PlateModes middle = oneCell(3, 3, 1, 1, 2.5);
        Check.same("weight() of the middle cell", middle.weight(), 2.5);
        Check.same("mirrored(true) of the middle cell", middle.mirrored(true), true);
        Check.same("mirrored(false) of the middle cell", middle.mirrored(false), true);
        PlateModes top = oneCell(3, 3, 1, 0, 1);
        Check.same("mirrored(true) of the middle one above", top.mirrored(true), true);
        Check.same("mirrored(false) of the middle one above", top.mirrored(false), false);
        PlateModes left = oneCell(3, 3, 0, 1, 1);
        Check.same("mirrored(true) of the middle one at the left", left.mirrored(true), false);
        Check.same("mirrored(false) of the middle one at the left", left.mirrored(false), true);
        for (int cell = 0; cell < 16; cell++) {
            PlateModes even = oneCell(4, 4, cell % 4, cell / 4, 1);
            Check.same("mirrored(true) of cell " + cell + " in 4 by 4", even.mirrored(true), false);
            Check.same("mirrored(false) of cell " + cell + " in 4 by 4", even.mirrored(false), false);
        }
    }

    private static void promise10CouplesAirWithOneCell() {
        PlateModes plate = oneCell(2, 2, 0, 0, 1);
        plate.modes(1);
        for (boolean greater : new boolean[] {false, true}) {
            double p = GROUND + 3 + 2;
            double root = PlainPlate.root(p * p - 4 * GROUND * 2);
            Check.same("coupled(0, 3, 2, " + greater + ") of one cell", plate.coupled(0, 3, 2, greater),
                greater ? (p + root) / 2 : (p - root) / 2);
        }
    }

    private static void promise13ThinsOneCell() {
        PlateModes plate = oneCell(3, 2, 2, 1, 1);
        plate.want(0, 64);
        Check.same("thin(0.5, 0.5) of one cell", plate.thin(0.5, 0.5), 1);
        Check.same("weight() of it", plate.weight(), 0.5);
        Check.near("its square", plate.mode(0, 0), GROUND * 2);
        Check.same("the others are still without wood", plate.wood(0, 0, 0), false);
        plate.want(1, 0);
        Check.state("thin(0.125, 0.125) with mode 1 of one cell wanted", () -> plate.thin(0.125, 0.125));
    }

    private static void promise5To8AreAsReadPlainlyWithAllCells() {
        for (int[] s : SIZES) {
            for (double thick : new double[] {0.125, 1, 8}) {
                PlateModes plate = filled(s[0], s[1], thick);
                String call = size(s) + ", all " + thick + " thick";
                Answers.likePlain(call, plate, plainlyFilled(s[0], s[1], thick), s[0], s[1], 4);
                for (int k = 0; k < 4; k++) {
                    for (int other = 0; other < 4; other++) {
                        Check.near(call + ": product(" + k + ", " + other + ")", plate.product(k, other), k == other ? 1 : 0);
                    }
                }
            }
        }
    }

    private static void promise9And11SeeAllCells() {
        for (int[] s : SIZES) {
            PlateModes plate = filled(s[0], s[1], 8);
            Check.same(size(s) + " all 8 thick: weight()", plate.weight(), s[0] * s[1] * 8.0);
            Check.same(size(s) + " all 8 thick: mirrored(true)", plate.mirrored(true), true);
            Check.same(size(s) + " all 8 thick: mirrored(false)", plate.mirrored(false), true);
            plate.wood(s[0] - 1, s[1] - 1, 7.875);
            Check.same(size(s) + ", the last one thinner: mirrored(true)", plate.mirrored(true), false);
            Check.same(size(s) + ", the last one thinner: mirrored(false)", plate.mirrored(false), false);
        }
    }

    private static void promise10TakesAllCellsAsTheArea() {
        PlateModes plate = new PlateModes(3, 2);
        plate.wood(1, 1, 0);
        plate.modes(2);
        for (int k = 0; k < 2; k++) {
            double s = 0;
            for (int cell = 0; cell < 6; cell++) {
                s += plate.shape(k, cell % 3, cell / 3);
            }
            double square = plate.mode(k, 0);
            double p = square + 8 * s * s + 8;
            double root = PlainPlate.root(p * p - 4 * square * 8);
            Check.same("coupled(" + k + ", 8, 8, false)", plate.coupled(k, 8, 8, false), (p - root) / 2);
            Check.same("coupled(" + k + ", 8, 8, true)", plate.coupled(k, 8, 8, true), (p + root) / 2);
        }
    }

    private static void promise13ThinsAllCells() {
        for (int[] s : SIZES) {
            PlateModes plate = filled(s[0], s[1], 1);
            PlainPlate plain = plainlyFilled(s[0], s[1], 1);
            plate.want(0, 64);
            plain.want(0, 64);
            Check.same(size(s) + ": thin(0.125, 0.125)", plate.thin(0.125, 0.125), plain.thin(0.125, 0.125));
            Check.same(size(s) + ": sum()", plate.sum(), plain.sum());
            Check.same(size(s) + ": weight()", plate.weight(), plain.weight());
        }
    }
}

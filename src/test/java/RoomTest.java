/** No brace, 12 and one more; no mode wanted, 4 and one more; modes that are fewer than told. */
final class RoomTest {
    private static final int[][] LINES = {{0, 0, 3, 0}, {0, 1, 3, 1}, {0, 2, 3, 2}, {0, 0, 0, 2}, {1, 0, 1, 2}, {2, 0, 2, 2},
        {3, 0, 3, 2}, {1, 0, 2, 0}, {2, 1, 1, 1}, {3, 2, 2, 2}, {1, 2, 1, 1}, {2, 0, 2, 1}};

    public static void main(String[] args) {
        promise4NoBraceHoldsNothing();
        promise4EachOf12BracesHolds();
        promise4TellsHowManyBracesThereAre();
        promise4ThirteenthBraceIsRefusedAndHoldsNothing();
        promise4AddsUpBracesOnOneLine();
        promise12TellsHowManyAreWanted();
        promise12FifthIsRefusedAndNotWanted();
        promise13And14RefuseWhereNoneIsWanted();
        promise13And14TakeOneWanted();
        promise13And14TakeAllFourWanted();
        promise13And14TakeOneModeWantedTwice();
        promise14NeedsTheGreatestWantedInAnyOrder();
        promise13MakesAsManyAsTheGreatestWantedNeeds();
        promise5TellsFewerThanToldWhereOneIsNone();
        promise5MakesNoneBehindOneThatIsNone();
        promise13And14RefuseAWantedModeThatIsNone();
        Check.finish("RoomTest");
    }

    private static PlateModes plate() {
        PlateModes plate = new PlateModes(4, 3);
        plate.rates(1.5, 0.75, 1.25);
        plate.wood(2, 1, 1.6);
        return plate;
    }

    private static PlainPlate plainPlate() {
        PlainPlate plain = new PlainPlate(4, 3);
        plain.rates(1.5, 0.75, 1.25);
        plain.wood(2, 1, 1.6);
        return plain;
    }

    private static PlateModes cells(double... thick) {
        PlateModes plate = new PlateModes(2, 2);
        for (int cell = 0; cell < 4; cell++) {
            plate.wood(cell % 2, cell / 2, cell < thick.length ? thick[cell] : 0);
        }
        return plate;
    }

    private static void promise4NoBraceHoldsNothing() {
        Answers.likePlain("no brace", plate(), plainPlate(), 4, 3, 3);
    }

    private static void promise4EachOf12BracesHolds() {
        PlateModes plate = plate();
        PlainPlate plain = plainPlate();
        double before = 0;
        for (int brace = 0; brace < 12; brace++) {
            int[] c = LINES[brace];
            double height = 0.125 + brace * 0.3;
            plate.brace(c[0], c[1], c[2], c[3], height);
            plain.brace(c[0], c[1], c[2], c[3], height);
            plate.modes(2);
            plain.modes(2);
            Check.same("square of mode 1 by " + (brace + 1) + " braces", plate.mode(1, 0), plain.mode(1, 0));
            Check.same("brace " + (brace + 1) + " holds something", plate.mode(1, 0) == before, false);
            before = plate.mode(1, 0);
        }
        Answers.likePlain("12 braces", plate, plain, 4, 3, 3);
    }

    private static void promise4TellsHowManyBracesThereAre() {
        PlateModes plate = plate();
        for (int brace = 1; brace <= 12; brace++) {
            int[] c = LINES[brace - 1];
            Check.same("brace " + brace, plate.brace(c[0], c[1], c[2], c[3], 1), brace);
            Check.argument("a refused one behind it", () -> plate.brace(c[0], c[1], c[2], c[3], 0));
        }
    }

    private static void promise4ThirteenthBraceIsRefusedAndHoldsNothing() {
        PlateModes plate = plate();
        PlainPlate plain = plainPlate();
        for (int[] c : LINES) {
            plate.brace(c[0], c[1], c[2], c[3], 0.5);
            plain.brace(c[0], c[1], c[2], c[3], 0.5);
        }
        plate.modes(3);
        String before = Answers.of(plate, 4, 3);
        Check.state("brace 13", () -> plate.brace(0, 0, 3, 0, 8));
        Check.same("answers after brace 13", Answers.of(plate, 4, 3), before);
        Check.state("brace 13 again", () -> plate.brace(0, 2, 0, 0, 0.125));
        Answers.likePlain("12 braces and one refused", plate, plain, 4, 3, 3);
    }

    private static void promise4AddsUpBracesOnOneLine() {
        PlateModes twelve = plate();
        PlateModes one = plate();
        for (int brace = 0; brace < 12; brace++) {
            twelve.brace(0, 1, 3, 1, 0.25);
        }
        one.brace(3, 1, 0, 1, 3);
        twelve.modes(2);
        one.modes(2);
        Check.near("12 braces by 0.25 are one by 3", twelve.mode(1, 0), one.mode(1, 0));
        one.brace(0, 1, 3, 1, 0.25);
        one.modes(2);
        Check.same("a thirteenth would be more", one.mode(1, 0) > twelve.mode(1, 0) + 1e-6, true);
    }

    private static void promise12TellsHowManyAreWanted() {
        PlateModes plate = plate();
        for (int wanted = 1; wanted <= 4; wanted++) {
            Check.same("want " + wanted, plate.want(wanted - 1, wanted), wanted);
            Check.argument("a refused one behind it", () -> plate.want(0, 65));
            Check.index("another refused one behind it", () -> plate.want(4, 1));
        }
    }

    private static void promise12FifthIsRefusedAndNotWanted() {
        PlateModes plate = plate();
        plate.modes(2);
        for (int wanted = 0; wanted < 4; wanted++) {
            plate.want(wanted % 2, 0.5 * wanted);
        }
        double sum = plate.sum();
        for (int k = 0; k < 4; k++) {
            int mode = k;
            Check.state("a fifth, of mode " + k, () -> plate.want(mode, 64));
            Check.same("sum() after a refused fifth", plate.sum(), sum);
        }
        plate.thin(0.125, 8);
        Check.same("sum() after thin()", plate.sum(), sum);
        Check.state("mode 2 is needed by none", () -> plate.mode(2, 0));
    }

    private static void promise13And14RefuseWhereNoneIsWanted() {
        PlateModes plate = plate();
        Check.state("thin() before modes(), none wanted", () -> plate.thin(0.125, 0.125));
        Check.state("sum() before modes(), none wanted", plate::sum);
        plate.modes(4);
        String before = Answers.of(plate, 4, 3);
        Check.state("thin(), none wanted", () -> plate.thin(0.125, 0.125));
        Check.state("sum(), none wanted", plate::sum);
        Check.same("answers after them", Answers.of(plate, 4, 3), before);
        Check.argument("want() that is refused", () -> plate.want(0, 64.5));
        Check.state("sum(), still none wanted", plate::sum);
        Check.state("thin(), still none wanted", () -> plate.thin(0.125, 0.125));
    }

    private static void promise13And14TakeOneWanted() {
        for (int k = 0; k < 4; k++) {
            PlateModes plate = plate();
            PlainPlate plain = plainPlate();
            Check.same("want(" + k + ", 0.5)", plate.want(k, 0.5), plain.want(k, 0.5));
            plate.modes(4);
            double e = plate.mode(k, 0) - 0.5;
            Check.same("sum() of mode " + k, plate.sum(), e * e);
            Check.same("thin() towards mode " + k, plate.thin(0.25, 0.25), plain.thin(0.25, 0.25));
            Check.same("sum() after it", plate.sum(), plain.sum());
        }
    }

    private static void promise13And14TakeAllFourWanted() {
        double[][] wishes = {{2, 1.5}, {0, 0.05}, {3, 64}, {1, 0}};
        PlateModes plate = plate();
        PlainPlate plain = plainPlate();
        plate.modes(4);
        double due = 0;
        for (double[] wish : wishes) {
            plate.want((int) wish[0], wish[1]);
            plain.want((int) wish[0], wish[1]);
            double e = plate.mode((int) wish[0], 0) - wish[1];
            due = due + e * e;
            Check.same("sum() with one more wanted", plate.sum(), due);
        }
        Check.same("thin() towards four", plate.thin(0.25, 0.25), plain.thin(0.25, 0.25));
        Check.same("sum() after it", plate.sum(), plain.sum());
    }

    private static void promise13And14TakeOneModeWantedTwice() {
        PlateModes plate = plate();
        plate.modes(1);
        plate.want(0, 0.25);
        double once = plate.sum();
        Check.same("the same one is counted again", plate.want(0, 0.25), 2);
        Check.same("sum() of it twice", plate.sum(), once + once);
    }

    private static void promise14NeedsTheGreatestWantedInAnyOrder() {
        for (int[] order : new int[][] {{0, 2}, {2, 0}, {2, 2}, {1, 2}}) {
            PlateModes plate = plate();
            plate.want(order[0], 1);
            plate.want(order[1], 1);
            for (int n = 1; n <= 4; n++) {
                plate.modes(n);
                String call = "sum() of modes " + order[0] + " and " + order[1] + " after modes(" + n + ")";
                if (n < 3) {
                    Check.state(call, plate::sum);
                } else {
                    Check.fine(call, plate::sum);
                }
            }
        }
    }

    private static void promise13MakesAsManyAsTheGreatestWantedNeeds() {
        for (int[] order : new int[][] {{0, 0}, {0, 1}, {1, 0}, {2, 0}, {0, 2}, {3, 1}, {1, 3}}) {
            for (int before = 0; before <= 4; before++) {
                PlateModes plate = plate();
                if (before > 0) {
                    plate.modes(before);
                }
                plate.want(order[0], 1);
                plate.want(order[1], 1);
                plate.thin(0.125, 8);
                int greatest = Math.max(order[0], order[1]);
                for (int k = 0; k < 4; k++) {
                    int mode = k;
                    String call = "mode " + k + " after thin() towards " + order[0] + " and " + order[1];
                    if (k <= greatest) {
                        Check.fine(call, () -> plate.mode(mode, 0));
                    } else {
                        Check.state(call, () -> plate.mode(mode, 0));
                    }
                }
            }
        }
    }

    private static void promise5TellsFewerThanToldWhereOneIsNone() {
        for (int told = 1; told <= 4; told++) {
            Check.same("no cell: modes(" + told + ")", cells().modes(told), 0);
            Check.same("one cell: modes(" + told + ")", cells(1).modes(told), 1);
            Check.same("two cells: modes(" + told + ")", cells(1, 1).modes(told), Math.min(told, 2));
            Check.same("four cells: modes(" + told + ")", cells(1, 1, 1, 1).modes(told), told);
        }
        PlateModes two = cells(1, 1);
        two.modes(4);
        for (int k = 0; k < 4; k++) {
            int mode = k;
            if (k < 2) {
                Check.fine("mode " + k + " of two cells", () -> two.mode(mode, 0));
                Check.near("product of mode " + k + " of two cells", two.product(mode, mode), 1);
            } else {
                Check.state("mode " + k + " of two cells", () -> two.mode(mode, 0));
                Check.state("shape of mode " + k + " of two cells", () -> two.shape(mode, 0, 0));
                Check.state("product of 0 and mode " + k + " of two cells", () -> two.product(0, mode));
                Check.state("product of mode " + k + " and 0 of two cells", () -> two.product(mode, 0));
                Check.state("air with mode " + k + " of two cells", () -> two.coupled(mode, 1, 1, true));
                Check.state("tap by mode " + k + " of two cells", () -> two.tap(mode, 0, 0, 1));
            }
        }
    }

    /** Nothing is left of mode 2 of these two cells, but rounding would leave a mode 3 if it were swept. */
    private static void promise5MakesNoneBehindOneThatIsNone() {
        for (double[] thick : new double[][] {{2.875, 0.75}, {4.5, 2.75}, {7.25, 2.375}}) {
            PlateModes plate = cells(thick);
            double density = thick[0] == 4.5 ? 2 : 1;
            plate.rates(1, 1, density);
            Check.same("modes(4) of " + thick[0] + " and " + thick[1], plate.modes(4), 2);
            Check.state("mode 2 of " + thick[0] + " and " + thick[1], () -> plate.mode(2, 0));
            Check.state("mode 3 of " + thick[0] + " and " + thick[1], () -> plate.mode(3, 0));
        }
    }

    private static void promise13And14RefuseAWantedModeThatIsNone() {
        PlateModes plate = cells(1, 1);
        plate.want(0, 1);
        plate.modes(4);
        Check.fine("sum() of a mode that is made", plate::sum);
        plate.want(2, 1);
        Check.state("sum() of a mode that is none", plate::sum);
        Check.state("thin() towards a mode that is none", () -> plate.thin(0.125, 0.125));
        Check.argument("thin() by 0 towards a mode that is none", () -> plate.thin(0, 0.125));
        Check.same("weight() after refused thin()", plate.weight(), 2.0);
        Check.fine("mode 1 after refused thin()", () -> plate.mode(1, 0));
        plate.wood(0, 1, 1);
        Check.fine("thin() with one cell more", () -> plate.thin(0.125, 0.125));
        Check.fine("sum() with one cell more", plate::sum);
    }
}

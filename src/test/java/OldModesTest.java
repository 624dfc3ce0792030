import java.util.ArrayList;
import java.util.List;
import java.util.function.Consumer;

/** Modes that the latest modes() or thin() did not make, and those that a later call made old or left as they were. */
final class OldModesTest {
    private static final int WIDTH = 4;
    private static final int HEIGHT = 3;

    private record Ask(String call, Consumer<PlateModes> ask) {
    }

    private record Change(String call, Consumer<PlateModes> make) {
    }

    public static void main(String[] args) {
        noModeIsMadeAtFirst();
        theLatestModesMadeOnlyWhatItWasTold();
        theLatestModesMadeOnlyWhatIsNotNone();
        theLatestThinMadeOnlyWhatIsNeeded();
        anotherThicknessMakesModesOld();
        ratesAndBraceMakeModesOld();
        wantCountsForNothing();
        asksLeaveModesAsTheyAre();
        refusedCallsLeaveModesAsTheyAre();
        oldModesStayOldUntilTheyAreMadeAnew();
        thinMakesOldModesAnew();
        Check.finish("OldModesTest");
    }

    /** Three modes made, the last of them wanted too, so that sum() needs them all. */
    private static PlateModes plate() {
        PlateModes plate = new PlateModes(WIDTH, HEIGHT);
        plate.rates(1.5, 0.75, 1.25);
        plate.wood(2, 0, 1.6);
        plate.wood(1, 1, 0);
        plate.brace(0, 0, 3, 0, 0.5);
        plate.want(2, 1.5);
        plate.modes(3);
        return plate;
    }

    private static List<Ask> asksOf(int k) {
        List<Ask> all = new ArrayList<>();
        for (int what = 0; what < 3; what++) {
            int told = what;
            all.add(new Ask("mode(" + k + ", " + what + ")", p -> p.mode(k, told)));
        }
        all.add(new Ask("shape(" + k + ", 0, 0)", p -> p.shape(k, 0, 0)));
        all.add(new Ask("shape(" + k + ", 3, 2)", p -> p.shape(k, 3, 2)));
        all.add(new Ask("shape(" + k + ", 1, 1)", p -> p.shape(k, 1, 1)));
        all.add(new Ask("product(" + k + ", 0)", p -> p.product(k, 0)));
        all.add(new Ask("product(0, " + k + ")", p -> p.product(0, k)));
        all.add(new Ask("product(" + k + ", " + k + ")", p -> p.product(k, k)));
        all.add(new Ask("coupled(" + k + ", 1, 1, false)", p -> p.coupled(k, 1, 1, false)));
        all.add(new Ask("coupled(" + k + ", 0, 0, true)", p -> p.coupled(k, 0, 0, true)));
        all.add(new Ask("tap(" + k + ", 0, 0, 1)", p -> p.tap(k, 0, 0, 1)));
        all.add(new Ask("tap(" + k + ", 1, 1, 1)", p -> p.tap(k, 1, 1, 1)));
        return all;
    }

    /** Modes 0 to made - 1 answer every ask, and the others none. */
    private static void hasModes(String when, PlateModes plate, int made) {
        for (int k = 0; k < 4; k++) {
            for (Ask ask : asksOf(k)) {
                String call = when + ": " + ask.call();
                if (k < made) {
                    Check.fine(call, () -> ask.ask().accept(plate));
                } else {
                    Check.state(call, () -> ask.ask().accept(plate));
                }
            }
        }
    }

    private static void noModeIsMadeAtFirst() {
        hasModes("a new plate", new PlateModes(WIDTH, HEIGHT), 0);
        PlateModes told = new PlateModes(WIDTH, HEIGHT);
        told.want(0, 1);
        hasModes("a new plate with one wanted", told, 0);
        Check.state("a new plate with one wanted: sum()", told::sum);
    }

    private static void theLatestModesMadeOnlyWhatItWasTold() {
        for (int before = 1; before <= 4; before++) {
            for (int n = 1; n <= 4; n++) {
                PlateModes plate = new PlateModes(WIDTH, HEIGHT);
                plate.modes(before);
                plate.modes(n);
                hasModes("modes(" + before + "), modes(" + n + ")", plate, n);
            }
        }
    }

    private static void theLatestModesMadeOnlyWhatIsNotNone() {
        PlateModes plate = new PlateModes(WIDTH, HEIGHT);
        plate.modes(4);
        for (int cell = 2; cell < WIDTH * HEIGHT; cell++) {
            plate.wood(cell % WIDTH, cell / WIDTH, 0);
        }
        Check.same("modes(4) of two cells", plate.modes(4), 2);
        hasModes("modes(4) of two cells", plate, 2);
        plate.wood(0, 0, 0);
        plate.modes(4);
        hasModes("modes(4) of one cell", plate, 1);
        plate.wood(1, 0, 0);
        plate.modes(4);
        hasModes("modes(4) of no cell", plate, 0);
    }

    private static void theLatestThinMadeOnlyWhatIsNeeded() {
        for (double low : new double[] {0.125, 8}) {
            for (int wanted = 0; wanted < 4; wanted++) {
                PlateModes fewer = new PlateModes(WIDTH, HEIGHT);
                fewer.want(wanted, 0.5);
                fewer.thin(0.125, low);
                hasModes("thin() towards mode " + wanted, fewer, wanted + 1);
                PlateModes more = new PlateModes(WIDTH, HEIGHT);
                more.modes(4);
                more.want(wanted, 0.5);
                more.thin(0.125, low);
                hasModes("modes(4), thin() towards mode " + wanted, more, wanted + 1);
                Check.fine("sum() after thin() towards mode " + wanted, more::sum);
            }
        }
    }

    private static void makesOld(Change... changes) {
        for (Change change : changes) {
            PlateModes plate = plate();
            Check.fine("sum() before " + change.call(), plate::sum);
            change.make().accept(plate);
            hasModes("after " + change.call(), plate, 0);
            Check.state("sum() after " + change.call(), plate::sum);
            plate.modes(3);
            hasModes("made anew after " + change.call(), plate, 3);
            Check.fine("sum() made anew after " + change.call(), plate::sum);
        }
    }

    private static void leavesAsTheyAre(Change... changes) {
        for (Change change : changes) {
            PlateModes plate = plate();
            String due = Answers.of(plate, WIDTH, HEIGHT);
            change.make().accept(plate);
            Check.same("answers after " + change.call(), Answers.of(plate, WIDTH, HEIGHT), due);
            hasModes("after " + change.call(), plate, 3);
        }
    }

    private static void anotherThicknessMakesModesOld() {
        makesOld(
            new Change("a cell that becomes thicker", p -> p.wood(0, 0, 2)),
            new Change("a cell that becomes a bit thicker", p -> p.wood(0, 0, Math.nextUp(1.0))),
            new Change("a cell that loses its wood", p -> p.wood(3, 2, 0)),
            new Change("a cell that gets wood", p -> p.wood(1, 1, 0.125)),
            new Change("a cell that becomes thicker and then as before", p -> {
                p.wood(0, 0, 2);
                p.wood(0, 0, 1);
            }));
        leavesAsTheyAre(
            new Change("a cell as thick as before", p -> p.wood(2, 0, 1.6)),
            new Change("a cell without wood as before", p -> p.wood(1, 1, 0)),
            new Change("a cell without wood as before, by -0", p -> p.wood(1, 1, -0.0)));
    }

    private static void ratesAndBraceMakeModesOld() {
        makesOld(
            new Change("other rates", p -> p.rates(2, 2, 2)),
            new Change("rates as before", p -> p.rates(1.5, 0.75, 1.25)),
            new Change("a brace", p -> p.brace(0, 2, 3, 2, 1)),
            new Change("a brace that holds nothing", p -> p.brace(1, 1, 1, 2, 1)));
    }

    private static void wantCountsForNothing() {
        leavesAsTheyAre(new Change("one more wanted at its own square", p -> p.want(0, p.mode(0, 0))));
        PlateModes plate = plate();
        double square = plate.mode(2, 0);
        plate.want(3, 1);
        hasModes("after want(3, 1)", plate, 3);
        Check.same("mode(2, 0) after want(3, 1)", plate.mode(2, 0), square);
        Check.state("sum() after want(3, 1)", plate::sum);
    }

    private static void asksLeaveModesAsTheyAre() {
        leavesAsTheyAre(
            new Change("weight()", PlateModes::weight),
            new Change("sum()", PlateModes::sum),
            new Change("mirrored(true)", p -> p.mirrored(true)),
            new Change("mirrored(false)", p -> p.mirrored(false)),
            new Change("modes(3)", p -> p.modes(3)));
        for (int k = 0; k < 3; k++) {
            for (Ask ask : asksOf(k)) {
                leavesAsTheyAre(new Change(ask.call(), ask.ask()));
            }
        }
    }

    private static void refusedCallsLeaveModesAsTheyAre() {
        leavesAsTheyAre(
            new Change("refused wood", p -> Check.argument("wood(0, 0, 9)", () -> p.wood(0, 0, 9))),
            new Change("wood off the plate", p -> Check.index("wood(4, 0, 2)", () -> p.wood(4, 0, 2))),
            new Change("refused rates", p -> Check.argument("rates(2, 2, 9)", () -> p.rates(2, 2, 9))),
            new Change("a refused brace", p -> Check.argument("brace askew", () -> p.brace(0, 0, 1, 1, 1))),
            new Change("a brace off the plate", p -> Check.index("brace", () -> p.brace(0, 0, 4, 0, 1))),
            new Change("modes(0)", p -> Check.argument("modes(0)", () -> p.modes(0))),
            new Change("modes(5)", p -> Check.argument("modes(5)", () -> p.modes(5))),
            new Change("refused want()", p -> Check.argument("want(0, 65)", () -> p.want(0, 65))),
            new Change("refused thin()", p -> Check.argument("thin(0, 1)", () -> p.thin(0, 1))),
            new Change("mode 3, which is not made", p -> Check.state("mode(3, 0)", () -> p.mode(3, 0))));
        PlateModes full = new PlateModes(WIDTH, HEIGHT);
        for (int brace = 0; brace < 12; brace++) {
            full.brace(0, 0, 3, 0, 0.125);
        }
        full.modes(2);
        Check.state("brace 13", () -> full.brace(0, 0, 3, 0, 0.125));
        hasModes("after brace 13", full, 2);
        PlateModes noneWanted = new PlateModes(WIDTH, HEIGHT);
        noneWanted.modes(4);
        Check.state("thin(), none wanted", () -> noneWanted.thin(0.125, 0.125));
        hasModes("after thin(), none wanted", noneWanted, 4);
    }

    private static void oldModesStayOldUntilTheyAreMadeAnew() {
        PlateModes plate = plate();
        plate.rates(2, 2, 2);
        Check.argument("modes(0)", () -> plate.modes(0));
        hasModes("old, after refused modes()", plate, 0);
        Check.argument("thin(0, 1)", () -> plate.thin(0, 1));
        hasModes("old, after refused thin()", plate, 0);
        plate.wood(0, 0, 1);
        plate.want(0, 0);
        plate.weight();
        hasModes("old, after calls that make none", plate, 0);
        Check.state("old: sum()", plate::sum);
        plate.modes(1);
        hasModes("old, after modes(1)", plate, 1);
        Check.state("old, after modes(1): sum()", plate::sum);
    }

    private static void thinMakesOldModesAnew() {
        for (double low : new double[] {0.125, 8}) {
            PlateModes plate = plate();
            plate.rates(2, 2, 2);
            int thinned = plate.thin(0.125, low);
            Check.same("thin(0.125, " + low + ") thins some", thinned > 0, low < 8);
            hasModes("old, after thin(0.125, " + low + ")", plate, 3);
            String after = Answers.of(plate, WIDTH, HEIGHT);
            plate.modes(3);
            Check.same("modes(3) tells what thin() left", Answers.of(plate, WIDTH, HEIGHT), after);
        }
    }
}

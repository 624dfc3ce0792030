import java.util.ArrayList;
import java.util.List;
import java.util.function.Consumer;
import java.util.function.Supplier;

/**
 * Every call that can be refused, in plates of several kinds: it throws the exception that the document
 * names first, and the plate answers everything afterwards as its twin does, which was not so called.
 */
final class RefusedCallsTest {
    private static final String INDEX = "IndexOutOfBoundsException";
    private static final String ARGUMENT = "IllegalArgumentException";
    private static final String STATE = "IllegalStateException";
    private static final int WIDTH = 4;
    private static final int HEIGHT = 3;
    private static final int[][] OFF = {{-1, 0}, {WIDTH, 0}, {0, -1}, {0, HEIGHT}};
    private static final double[] BEYOND = {-1, 64.5, Double.NaN, Double.POSITIVE_INFINITY};

    private record Refused(String call, String due, Consumer<PlateModes> ask) {
    }

    private record Kind(String name, Supplier<PlateModes> make, List<Refused> refused) {
    }

    public static void main(String[] args) {
        List<Kind> kinds = List.of(
            new Kind("a new plate", () -> new PlateModes(WIDTH, HEIGHT), noneMadeAndNoneWanted()),
            new Kind("a plate in use", RefusedCallsTest::inUse, someMade()),
            new Kind("a full plate", RefusedCallsTest::full, noRoom()),
            new Kind("a plate whose modes are old", RefusedCallsTest::old, noneMade()),
            new Kind("a plate with fewer modes than wanted", RefusedCallsTest::twoCells, aWantedModeIsNone()),
            new Kind("a plate without wood", RefusedCallsTest::bare, aWantedModeIsNone()));
        for (Kind kind : kinds) {
            String due = allAnswers(kind.make().get());
            List<Refused> all = inAnyPlate();
            all.addAll(kind.refused());
            for (Refused refused : all) {
                PlateModes plate = kind.make().get();
                String call = kind.name() + ": " + refused.call();
                Check.same(call, Check.outcome(() -> refused.ask().accept(plate)), refused.due());
                Check.same(call + " changes nothing", allAnswers(plate), due);
            }
        }
        Check.finish("RefusedCallsTest");
    }

    private static PlateModes inUse() {
        PlateModes plate = new PlateModes(WIDTH, HEIGHT);
        plate.rates(1.5, 0.75, 1.25);
        plate.wood(1, 1, 0);
        plate.wood(2, 0, 1.6);
        plate.wood(3, 2, 0.4);
        plate.brace(0, 0, 3, 0, 0.5);
        plate.brace(2, 2, 2, 0, 1.5);
        plate.want(1, 0.75);
        plate.want(0, 0.04);
        plate.modes(2);
        return plate;
    }

    private static PlateModes full() {
        PlateModes plate = inUse();
        for (int brace = 2; brace < 12; brace++) {
            plate.brace(brace % 4, 0, brace % 4, 2, 0.2);
        }
        plate.want(3, 2);
        plate.want(3, 1);
        plate.modes(4);
        return plate;
    }

    private static PlateModes old() {
        PlateModes plate = inUse();
        plate.modes(4);
        plate.wood(0, 2, 0.9);
        return plate;
    }

    private static PlateModes bare() {
        PlateModes plate = inUse();
        for (int cell = 0; cell < WIDTH * HEIGHT; cell++) {
            plate.wood(cell % WIDTH, cell / WIDTH, 0);
        }
        plate.modes(2);
        return plate;
    }

    private static PlateModes twoCells() {
        PlateModes plate = bare();
        plate.rates(1, 1, 1);
        plate.wood(0, 0, 1);
        plate.wood(1, 0, 1);
        plate.want(2, 1);
        plate.modes(1);
        return plate;
    }

    /** All that a plate tells as it is, and then what follows from what it keeps out of sight. */
    private static String allAnswers(PlateModes plate) {
        StringBuilder all = new StringBuilder(Answers.of(plate, WIDTH, HEIGHT));
        all.append("\nmodes(4): ").append(plate.modes(4)).append(Answers.of(plate, WIDTH, HEIGHT));
        all.append("\nbrace: ").append(Answers.to(() -> plate.brace(0, 1, 0, 2, 0.5)));
        all.append("\nwant: ").append(Answers.to(() -> plate.want(0, 0.3)));
        all.append("\nthin: ").append(Answers.to(() -> plate.thin(0.25, 0.25)));
        all.append(Answers.of(plate, WIDTH, HEIGHT));
        for (int cell = 0; cell < WIDTH * HEIGHT; cell++) {
            int x = cell % WIDTH;
            int y = cell / WIDTH;
            all.append(' ').append(Answers.to(() -> plate.wood(x, y, 1)));
        }
        return all.toString();
    }

    private static void put(List<Refused> all, String due, String call, Consumer<PlateModes> ask) {
        all.add(new Refused(call, due, ask));
    }

    private static List<Refused> inAnyPlate() {
        List<Refused> all = new ArrayList<>();
        for (int[] c : OFF) {
            putOffThePlate(all, c[0], c[1]);
        }
        for (int k : new int[] {-1, 4}) {
            putNoSuchMode(all, k);
        }
        for (double v : BEYOND) {
            putNoSuchNumber(all, v);
        }
        for (int what : new int[] {-1, 3}) {
            put(all, INDEX, "mode(0, " + what + ")", p -> p.mode(0, what));
            put(all, INDEX, "mode(3, " + what + ")", p -> p.mode(3, what));
        }
        for (int n : new int[] {-1, 0, 5}) {
            put(all, ARGUMENT, "modes(" + n + ")", p -> p.modes(n));
        }
        put(all, ARGUMENT, "brace of one cell", p -> p.brace(1, 1, 1, 1, 1));
        put(all, ARGUMENT, "brace of one cell, too high", p -> p.brace(1, 1, 1, 1, 9));
        put(all, ARGUMENT, "brace askew", p -> p.brace(0, 0, 1, 1, 1));
        put(all, ARGUMENT, "brace askew, too high", p -> p.brace(3, 2, 0, 0, 9));
        put(all, ARGUMENT, "rates(0, 2, 2)", p -> p.rates(0, 2, 2));
        put(all, ARGUMENT, "rates(2, 0, 2)", p -> p.rates(2, 0, 2));
        put(all, ARGUMENT, "rates(2, 2, 0)", p -> p.rates(2, 2, 0));
        put(all, ARGUMENT, "thin(0, 0.125)", p -> p.thin(0, 0.125));
        put(all, ARGUMENT, "thin(0.125, 0)", p -> p.thin(0.125, 0));
        return all;
    }

    private static void putOffThePlate(List<Refused> all, int x, int y) {
        String at = x + ", " + y;
        put(all, INDEX, "wood(" + at + ", 2)", p -> p.wood(x, y, 2));
        put(all, INDEX, "wood(" + at + ", 9)", p -> p.wood(x, y, 9));
        put(all, INDEX, "brace(" + at + ", 0, 0, 1)", p -> p.brace(x, y, 0, 0, 1));
        put(all, INDEX, "brace(0, 0, " + at + ", 1)", p -> p.brace(0, 0, x, y, 1));
        put(all, INDEX, "brace(" + at + ", 1, 1, 9)", p -> p.brace(x, y, 1, 1, 9));
        put(all, INDEX, "brace(1, 1, " + at + ", 9)", p -> p.brace(1, 1, x, y, 9));
        put(all, INDEX, "brace(" + at + ", " + at + ", 9)", p -> p.brace(x, y, x, y, 9));
        put(all, INDEX, "shape(0, " + at + ")", p -> p.shape(0, x, y));
        put(all, INDEX, "shape(3, " + at + ")", p -> p.shape(3, x, y));
        put(all, INDEX, "tap(0, " + at + ", 1)", p -> p.tap(0, x, y, 1));
        put(all, INDEX, "tap(3, " + at + ", 65)", p -> p.tap(3, x, y, 65));
    }

    private static void putNoSuchMode(List<Refused> all, int k) {
        put(all, INDEX, "mode(" + k + ", 0)", p -> p.mode(k, 0));
        put(all, INDEX, "mode(" + k + ", 3)", p -> p.mode(k, 3));
        put(all, INDEX, "shape(" + k + ", 0, 0)", p -> p.shape(k, 0, 0));
        put(all, INDEX, "product(" + k + ", 0)", p -> p.product(k, 0));
        put(all, INDEX, "product(0, " + k + ")", p -> p.product(0, k));
        put(all, INDEX, "product(3, " + k + ")", p -> p.product(3, k));
        put(all, INDEX, "product(" + k + ", 3)", p -> p.product(k, 3));
        put(all, INDEX, "coupled(" + k + ", 1, 1, true)", p -> p.coupled(k, 1, 1, true));
        put(all, INDEX, "coupled(" + k + ", 9, 1, true)", p -> p.coupled(k, 9, 1, true));
        put(all, INDEX, "coupled(" + k + ", 1, 9, true)", p -> p.coupled(k, 1, 9, true));
        put(all, INDEX, "want(" + k + ", 1)", p -> p.want(k, 1));
        put(all, INDEX, "want(" + k + ", 65)", p -> p.want(k, 65));
        put(all, INDEX, "tap(" + k + ", 0, 0, 1)", p -> p.tap(k, 0, 0, 1));
        put(all, INDEX, "tap(" + k + ", 0, 0, 65)", p -> p.tap(k, 0, 0, 65));
    }

    private static void putNoSuchNumber(List<Refused> all, double v) {
        put(all, ARGUMENT, "wood(0, 0, " + v + ")", p -> p.wood(0, 0, v));
        put(all, ARGUMENT, "rates(" + v + ", 2, 2)", p -> p.rates(v, 2, 2));
        put(all, ARGUMENT, "rates(2, " + v + ", 2)", p -> p.rates(2, v, 2));
        put(all, ARGUMENT, "rates(2, 2, " + v + ")", p -> p.rates(2, 2, v));
        put(all, ARGUMENT, "brace(0, 0, 3, 0, " + v + ")", p -> p.brace(0, 0, 3, 0, v));
        put(all, ARGUMENT, "want(0, " + v + ")", p -> p.want(0, v));
        put(all, ARGUMENT, "thin(" + v + ", 0.125)", p -> p.thin(v, 0.125));
        put(all, ARGUMENT, "thin(0.125, " + v + ")", p -> p.thin(0.125, v));
        for (int k = 0; k < 4; k++) {
            int mode = k;
            put(all, ARGUMENT, "coupled(" + k + ", " + v + ", 1, true)", p -> p.coupled(mode, v, 1, true));
            put(all, ARGUMENT, "coupled(" + k + ", 1, " + v + ", false)", p -> p.coupled(mode, 1, v, false));
            put(all, ARGUMENT, "tap(" + k + ", 0, 0, " + v + ")", p -> p.tap(mode, 0, 0, v));
        }
    }

    private static void putNotMade(List<Refused> all, int k) {
        put(all, STATE, "mode(" + k + ", 0)", p -> p.mode(k, 0));
        put(all, STATE, "shape(" + k + ", 0, 0)", p -> p.shape(k, 0, 0));
        put(all, STATE, "product(" + k + ", 0)", p -> p.product(k, 0));
        put(all, STATE, "product(0, " + k + ")", p -> p.product(0, k));
        put(all, STATE, "coupled(" + k + ", 1, 1, true)", p -> p.coupled(k, 1, 1, true));
        put(all, STATE, "tap(" + k + ", 0, 0, 1)", p -> p.tap(k, 0, 0, 1));
    }

    private static List<Refused> noneMade() {
        List<Refused> all = new ArrayList<>();
        for (int k = 0; k < 4; k++) {
            putNotMade(all, k);
        }
        put(all, STATE, "sum()", PlateModes::sum);
        return all;
    }

    private static List<Refused> noneMadeAndNoneWanted() {
        List<Refused> all = noneMade();
        put(all, STATE, "thin(0.125, 0.125)", p -> p.thin(0.125, 0.125));
        return all;
    }

    private static List<Refused> someMade() {
        List<Refused> all = new ArrayList<>();
        putNotMade(all, 2);
        putNotMade(all, 3);
        return all;
    }

    private static List<Refused> noRoom() {
        List<Refused> all = new ArrayList<>();
        put(all, STATE, "brace 13", p -> p.brace(0, 0, 3, 0, 1));
        put(all, STATE, "brace 13 along y", p -> p.brace(0, 2, 0, 0, 8));
        put(all, STATE, "a fifth wanted", p -> p.want(0, 1));
        put(all, STATE, "a fifth wanted at 64", p -> p.want(3, 64));
        return all;
    }

    private static List<Refused> aWantedModeIsNone() {
        List<Refused> all = someMade();
        putNotMade(all, 1);
        put(all, STATE, "sum()", PlateModes::sum);
        put(all, STATE, "thin(0.125, 0.125)", p -> p.thin(0.125, 0.125));
        put(all, STATE, "thin(1, 8)", p -> p.thin(1, 8));
        return all;
    }
}

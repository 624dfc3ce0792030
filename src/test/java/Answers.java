import java.util.function.Supplier;

/** What a plate answers, gathered, so that two plates can be held against one another in all that they tell. */
final class Answers {
    private Answers() {
    }

    /** The answer as a text, or the name of the exception that came instead. */
    static String to(Supplier<Object> call) {
        try {
            return call.get().toString();
        } catch (RuntimeException e) {
            return e.getClass().getSimpleName();
        }
    }

    /** All that a plate tells without becoming another one, refusals too. */
    static String of(PlateModes plate, int width, int height) {
        StringBuilder all = new StringBuilder();
        for (int k = 0; k < 4; k++) {
            int mode = k;
            all.append("\nmode ").append(k).append(':');
            for (int what = 0; what < 3; what++) {
                int told = what;
                put(all, () -> plate.mode(mode, told));
            }
            for (int cell = 0; cell < width * height; cell++) {
                int x = cell % width;
                int y = cell / width;
                put(all, () -> plate.shape(mode, x, y));
            }
            for (int other = 0; other < 4; other++) {
                int with = other;
                put(all, () -> plate.product(mode, with));
            }
            put(all, () -> plate.coupled(mode, 1.5, 0.75, false));
            put(all, () -> plate.coupled(mode, 1.5, 0.75, true));
            put(all, () -> plate.tap(mode, width - 1, 0, 0.5));
        }
        all.append("\nplate:");
        put(all, plate::sum);
        put(all, plate::weight);
        put(all, () -> plate.mirrored(true));
        put(all, () -> plate.mirrored(false));
        return all.toString();
    }

    private static void put(StringBuilder all, Supplier<Object> call) {
        all.append(' ').append(to(call));
    }

    /** The first n modes, made anew, are the plain plate's in all that they tell. */
    static void likePlain(String call, PlateModes plate, PlainPlate plain, int width, int height, int n) {
        int made = plain.modes(n);
        Check.same(call + ": modes(" + n + ")", plate.modes(n), made);
        for (int k = 0; k < made; k++) {
            for (int what = 0; what < 3; what++) {
                Check.same(call + ": mode(" + k + ", " + what + ")", plate.mode(k, what), plain.mode(k, what));
            }
            for (int cell = 0; cell < width * height; cell++) {
                int x = cell % width;
                int y = cell / width;
                Check.same(call + ": shape(" + k + ", " + x + ", " + y + ")", plate.shape(k, x, y), plain.shape(k, x, y));
            }
        }
    }
}

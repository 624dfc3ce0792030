/**
 * A plate of wood that sounds: its cells, springs and braces, its lowest modes by sweeps, air
 * coupled with them, and thinning towards wanted squares. ../shared/DOC.md tells what is promised.
 */
public final class PlateModes {
    public static final int NONE = -1;

    private static final int SIDE_LEAST = 2;
    private static final int SIDE_MOST = 6;
    private static final int MODES_MOST = 4;
    private static final int WISHES_MOST = 4;
    private static final int BRACES_MOST = 12;
    private static final int SWEEPS = 24;
    private static final int ROOT_STEPS = 30;

    private final Plate plate;
    private final ModeSet made;
    // thin() may still throw after it made modes, so it makes them here and leaves the latest alone.
    private final ModeSet tried;
    private final Wishes wishes;

    public PlateModes(int width, int height) {
        plate = new Plate(nearestSide(width), nearestSide(height));
        made = new ModeSet(plate);
        tried = new ModeSet(plate);
        wishes = new Wishes();
    }

    public boolean wood(int x, int y, double thick) throws IndexOutOfBoundsException, IllegalArgumentException {
        requireCell(x, y);
        if (thick != 0) {
            requireRange(thick, 0.125, 8);
        }
        int cell = plate.cellAt(x, y);
        if (plate.thicknessOf(cell) == thick) {
            return false;
        }
        plate.setThickness(cell, thick);
        made.forget();
        return true;
    }

    public void rates(double along, double across, double density) throws IllegalArgumentException {
        requireRange(along, 0.125, 8);
        requireRange(across, 0.125, 8);
        requireRange(density, 0.125, 8);
        plate.setRates(along, across, density);
        made.forget();
    }

    public int brace(int x0, int y0, int x1, int y1, double height)
            throws IndexOutOfBoundsException, IllegalArgumentException, IllegalStateException {
        requireCell(x0, y0);
        requireCell(x1, y1);
        boolean alongX = y0 == y1;
        boolean alongY = x0 == x1;
        if (alongX == alongY) {
            throw new IllegalArgumentException("a brace lies between two cells on a line along x or y");
        }
        requireRange(height, 0.125, 8);
        if (plate.bracesFull()) {
            throw new IllegalStateException("there is no room for another brace");
        }
        int from = plate.cellAt(Math.min(x0, x1), Math.min(y0, y1));
        int to = plate.cellAt(Math.max(x0, x1), Math.max(y0, y1));
        made.forget();
        return plate.addBrace(alongX, from, to, height);
    }

    public int modes(int n) throws IllegalArgumentException {
        if (n < 1 || n > MODES_MOST) {
            throw new IllegalArgumentException("modes are 1 to 4");
        }
        return made.make(n);
    }

    public double mode(int k, int what) throws IndexOutOfBoundsException, IllegalStateException {
        requireMode(k);
        if (what < 0 || what > 2) {
            throw new IndexOutOfBoundsException("a mode tells 0, 1 or 2");
        }
        requireMade(k);
        if (what == 0) {
            return made.squareOf(k);
        }
        return what == 1 ? made.residueOf(k) : made.totalOf(k);
    }

    public double shape(int k, int x, int y) throws IndexOutOfBoundsException, IllegalStateException {
        requireMode(k);
        requireCell(x, y);
        requireMade(k);
        return made.shapeAt(k, plate.cellAt(x, y));
    }

    public double product(int k, int other) throws IndexOutOfBoundsException, IllegalStateException {
        requireMode(k);
        requireMode(other);
        requireMade(k);
        requireMade(other);
        return made.productOf(k, other);
    }

    public boolean mirrored(boolean alongX) {
        return alongX ? plate.mirroredAlongX() : plate.mirroredAlongY();
    }

    public double coupled(int k, double q, double h, boolean greater)
            throws IndexOutOfBoundsException, IllegalArgumentException, IllegalStateException {
        requireMode(k);
        requireRange(q, 0, 8);
        requireRange(h, 0, 8);
        requireMade(k);
        double square = made.squareOf(k);
        double moved = made.totalOf(k);
        double p = square + q * moved * moved + h;
        double d = p * p - 4 * square * h;
        return greater ? (p + root(d)) / 2 : (p - root(d)) / 2;
    }

    public double weight() {
        return plate.massOfAll();
    }

    public int want(int k, double square)
            throws IndexOutOfBoundsException, IllegalArgumentException, IllegalStateException {
        requireMode(k);
        requireRange(square, 0, 64);
        if (wishes.full()) {
            throw new IllegalStateException("there is no room for another wanted mode");
        }
        return wishes.add(k, square);
    }

    public int thin(double step, double low) throws IllegalArgumentException, IllegalStateException {
        requireRange(step, 0.125, 1);
        requireRange(low, 0.125, 8);
        int needed = wishes.modesNeeded();
        if (needed == 0 || tried.make(needed) < needed) {
            throw new IllegalStateException("no mode is wanted, or a wanted mode is none");
        }
        double least = wishes.missedBy(tried);
        int thinned = 0;
        for (int cell = 0; cell < plate.cells(); cell++) {
            if (plate.hasWood(cell) && plate.thicknessOf(cell) - step >= low) {
                double now = tryThinner(cell, step, least);
                if (now < least) {
                    least = now;
                    thinned++;
                }
            }
        }
        made.make(needed);
        return thinned;
    }

    public double sum() throws IllegalStateException {
        int needed = wishes.modesNeeded();
        if (needed == 0 || made.count() < needed) {
            throw new IllegalStateException("no mode is wanted, or a wanted mode was not made");
        }
        return wishes.missedBy(made);
    }

    public double tap(int k, int x, int y, double v)
            throws IndexOutOfBoundsException, IllegalArgumentException, IllegalStateException {
        requireMode(k);
        requireCell(x, y);
        requireRange(v, 0, 64);
        requireMade(k);
        double there = made.shapeAt(k, plate.cellAt(x, y));
        double off = v - made.squareOf(k);
        return there * there / (1 + off * off);
    }

    private static int nearestSide(int side) {
        return Math.max(SIDE_LEAST, Math.min(SIDE_MOST, side));
    }

    private void requireCell(int x, int y) {
        if (!plate.hasCell(x, y)) {
            throw new IndexOutOfBoundsException("there is no such cell");
        }
    }

    private static void requireMode(int k) {
        if (k < 0 || k >= MODES_MOST) {
            throw new IndexOutOfBoundsException("modes are 0 to 3");
        }
    }

    // Asked this way round so that a value that is no number is refused too.
    private static void requireRange(double value, double least, double most) {
        if (!(value >= least && value <= most)) {
            throw new IllegalArgumentException("a number is outside its bounds");
        }
    }

    private void requireMade(int k) {
        if (k >= made.count()) {
            throw new IllegalStateException("that mode is not made for the plate as it is");
        }
    }

    /** The sum with the cell thinned; where that is not less, the cell is as before and so is the sum. */
    private double tryThinner(int cell, double step, double least) {
        double before = plate.thicknessOf(cell);
        int needed = wishes.modesNeeded();
        plate.setThickness(cell, before - step);
        // A wanted mode that is none has no sum, so none that could be less.
        if (tried.make(needed) == needed) {
            double now = wishes.missedBy(tried);
            if (now < least) {
                return now;
            }
        }
        plate.setThickness(cell, before);
        return least;
    }

    // The document's own ROOT: its thirty steps do not always settle, and answers show it.
    private static double root(double v) {
        if (!(v > 0)) {
            return 0;
        }
        double r = 1 + v;
        for (int step = 0; step < ROOT_STEPS; step++) {
            r = (r + v / r) / 2;
        }
        return r;
    }

    // A method, since a static field may hold no double.
    private static double ground() {
        return 0.0625;
    }

    /** The wood: thicknesses, rates and braces, and what they do to a shape. */
    private static final class Plate {
        private final int width;
        private final int height;
        private final double[] thick;
        // The springs from each cell to x + 1 and to y + 1; reckoned anew by bindSprings().
        private final double[] toRight;
        private final double[] toBelow;
        private final Braces braces;
        private double along;
        private double across;
        private double density;

        Plate(int width, int height) {
            this.width = width;
            this.height = height;
            thick = new double[width * height];
            toRight = new double[width * height];
            toBelow = new double[width * height];
            braces = new Braces();
            along = 1;
            across = 1;
            density = 1;
            for (int cell = 0; cell < thick.length; cell++) {
                thick[cell] = 1;
            }
        }

        int cells() {
            return thick.length;
        }

        boolean hasCell(int x, int y) {
            return x >= 0 && x < width && y >= 0 && y < height;
        }

        int cellAt(int x, int y) {
            return y * width + x;
        }

        double thicknessOf(int cell) {
            return thick[cell];
        }

        void setThickness(int cell, double thickness) {
            thick[cell] = thickness;
        }

        boolean hasWood(int cell) {
            return thick[cell] > 0;
        }

        void setRates(double newAlong, double newAcross, double newDensity) {
            along = newAlong;
            across = newAcross;
            density = newDensity;
        }

        boolean bracesFull() {
            return braces.full();
        }

        int addBrace(boolean alongX, int from, int to, double braceHeight) {
            return braces.add(alongX ? 1 : width, from, to, braceHeight);
        }

        double massOf(int cell) {
            return thick[cell] * density;
        }

        double massOfAll() {
            double mass = 0;
            for (int cell = 0; cell < thick.length; cell++) {
                mass = mass + massOf(cell);
            }
            return mass;
        }

        boolean mirroredAlongX() {
            for (int y = 0; y < height; y++) {
                for (int x = 0; x < width; x++) {
                    if (thick[cellAt(x, y)] != thick[cellAt(width - 1 - x, y)]) {
                        return false;
                    }
                }
            }
            return true;
        }

        boolean mirroredAlongY() {
            for (int y = 0; y < height; y++) {
                for (int x = 0; x < width; x++) {
                    if (thick[cellAt(x, y)] != thick[cellAt(x, height - 1 - y)]) {
                        return false;
                    }
                }
            }
            return true;
        }

        /** Reckons all springs for the thicknesses, rates and braces as they are. */
        void bindSprings() {
            for (int y = 0; y < height; y++) {
                for (int x = 0; x < width; x++) {
                    int cell = cellAt(x, y);
                    toRight[cell] = x + 1 < width ? springOf(along, cell, cell + 1) : 0;
                    toBelow[cell] = y + 1 < height ? springOf(across, cell, cell + width) : 0;
                }
            }
            // In the order in which they came: the springs' last bits depend on it.
            for (int brace = 0; brace < braces.count(); brace++) {
                stiffenBy(brace);
            }
        }

        private double springOf(double stiffness, int cell, int next) {
            if (!hasWood(cell) || !hasWood(next)) {
                return 0;
            }
            double t = (thick[cell] + thick[next]) / 2;
            return stiffness * t * t * t;
        }

        private void stiffenBy(int brace) {
            int pace = braces.paceOf(brace);
            double[] springs = pace == 1 ? toRight : toBelow;
            double growth = braces.heightOf(brace);
            int last = braces.lastOf(brace);
            int cell = braces.firstOf(brace);
            // The braced line is at most one side long; it ends before its last cell.
            for (int spring = 1; spring < SIDE_MOST && cell < last; spring++) {
                if (hasWood(cell) && hasWood(cell + pace)) {
                    springs[cell] = springs[cell] + growth;
                }
                cell = cell + pace;
            }
        }

        double forceAt(double[] shape, int x, int y) {
            int cell = cellAt(x, y);
            double here = shape[cell];
            double force = 0;
            if (x + 1 < width) {
                force = force + toRight[cell] * (shape[cell + 1] - here);
            }
            if (x > 0) {
                force = force + toRight[cell - 1] * (shape[cell - 1] - here);
            }
            if (y + 1 < height) {
                force = force + toBelow[cell] * (shape[cell + width] - here);
            }
            if (y > 0) {
                force = force + toBelow[cell - width] * (shape[cell - width] - here);
            }
            return force - ground() * here;
        }

        private double heldAt(int x, int y) {
            int cell = cellAt(x, y);
            double held = ground();
            held = held + toRight[cell];
            held = x > 0 ? held + toRight[cell - 1] : held;
            held = held + toBelow[cell];
            return y > 0 ? held + toBelow[cell - width] : held;
        }

        void beginShape(double[] shape, int k) {
            for (int y = 0; y < height; y++) {
                for (int x = 0; x < width; x++) {
                    int cell = cellAt(x, y);
                    double start = (3 * x + 5 * y + 7 * k) % 11;
                    shape[cell] = hasWood(cell) ? 1 + start / 8 : 0;
                }
            }
        }

        /** Moves each cell at once, so that a later cell feels what an earlier one became. */
        void relax(double[] shape) {
            for (int y = 0; y < height; y++) {
                for (int x = 0; x < width; x++) {
                    int cell = cellAt(x, y);
                    if (hasWood(cell)) {
                        shape[cell] = shape[cell] + 0.5 * forceAt(shape, x, y) / heldAt(x, y);
                    }
                }
            }
        }

        double productOver(double[] one, double[] other) {
            double all = 0;
            for (int cell = 0; cell < thick.length; cell++) {
                if (hasWood(cell)) {
                    all = all + massOf(cell) * one[cell] * other[cell];
                }
            }
            return all;
        }

        double totalOver(double[] shape) {
            double all = 0;
            for (int cell = 0; cell < thick.length; cell++) {
                if (hasWood(cell)) {
                    all = all + shape[cell];
                }
            }
            return all;
        }

        double squareOver(double[] shape) {
            double all = 0;
            for (int y = 0; y < height; y++) {
                for (int x = 0; x < width; x++) {
                    int cell = cellAt(x, y);
                    if (hasWood(cell)) {
                        all = all + shape[cell] * forceAt(shape, x, y);
                    }
                }
            }
            return -all;
        }

        double residueOver(double[] shape, double square) {
            double greatest = 0;
            for (int y = 0; y < height; y++) {
                for (int x = 0; x < width; x++) {
                    int cell = cellAt(x, y);
                    if (hasWood(cell)) {
                        double left = forceAt(shape, x, y) + square * massOf(cell) * shape[cell];
                        double size = left < 0 ? -left : left;
                        greatest = size > greatest ? size : greatest;
                    }
                }
            }
            return greatest;
        }
    }

    /** The braces in the order in which they came, each a row of cells from a first to a last one. */
    private static final class Braces {
        private final int[] paces;
        private final int[] firsts;
        private final int[] lasts;
        private final double[] heights;
        private int count;

        Braces() {
            paces = new int[BRACES_MOST];
            firsts = new int[BRACES_MOST];
            lasts = new int[BRACES_MOST];
            heights = new double[BRACES_MOST];
        }

        boolean full() {
            return count >= BRACES_MOST;
        }

        int count() {
            return count;
        }

        int add(int pace, int first, int last, double height) {
            if (!full()) {
                paces[count] = pace;
                firsts[count] = first;
                lasts[count] = last;
                heights[count] = height;
                count++;
            }
            return count;
        }

        int paceOf(int brace) {
            return paces[brace];
        }

        int firstOf(int brace) {
            return firsts[brace];
        }

        int lastOf(int brace) {
            return lasts[brace];
        }

        double heightOf(int brace) {
            return heights[brace];
        }
    }

    /** The lowest modes of a plate as it was when they were made. */
    private static final class ModeSet {
        private final Plate plate;
        private final double[][] shapes;
        private final double[] squares;
        private final double[] residues;
        private final double[] totals;
        private int count;

        ModeSet(Plate plate) {
            this.plate = plate;
            shapes = new double[MODES_MOST][plate.cells()];
            squares = new double[MODES_MOST];
            residues = new double[MODES_MOST];
            totals = new double[MODES_MOST];
        }

        int count() {
            return count;
        }

        void forget() {
            count = 0;
        }

        double squareOf(int k) {
            return squares[k];
        }

        double residueOf(int k) {
            return residues[k];
        }

        double totalOf(int k) {
            return totals[k];
        }

        double shapeAt(int k, int cell) {
            return shapes[k][cell];
        }

        double productOf(int k, int other) {
            return plate.productOver(shapes[k], shapes[other]);
        }

        /** Makes the first n modes, or fewer where one is none; answers how many there are. */
        int make(int n) {
            plate.bindSprings();
            count = 0;
            for (int k = 0; k < n && k < MODES_MOST; k++) {
                if (!settle(k)) {
                    return count;
                }
                measure(k);
                count = k + 1;
            }
            return count;
        }

        /** Sweeps mode k into its shape; false if it is none. */
        private boolean settle(int k) {
            double[] shape = shapes[k];
            plate.beginShape(shape, k);
            for (int sweep = 0; sweep < SWEEPS; sweep++) {
                plate.relax(shape);
                for (int j = 0; j < k; j++) {
                    takeOut(shape, shapes[j]);
                }
                double size = root(plate.productOver(shape, shape));
                if (!(size > 0)) {
                    return false;
                }
                for (int cell = 0; cell < shape.length; cell++) {
                    shape[cell] = shape[cell] / size;
                }
            }
            return true;
        }

        private void takeOut(double[] shape, double[] lower) {
            double share = plate.productOver(shape, lower);
            for (int cell = 0; cell < shape.length; cell++) {
                shape[cell] = shape[cell] - share * lower[cell];
            }
        }

        private void measure(int k) {
            double[] shape = shapes[k];
            squares[k] = plate.squareOver(shape);
            residues[k] = plate.residueOver(shape, squares[k]);
            totals[k] = plate.totalOver(shape);
        }
    }

    /** Which modes are wanted at which squares, in the order in which they were told. */
    private static final class Wishes {
        private final int[] wanted;
        private final double[] wishedSquares;
        private int count;

        Wishes() {
            wanted = new int[WISHES_MOST];
            wishedSquares = new double[WISHES_MOST];
        }

        boolean full() {
            return count >= WISHES_MOST;
        }

        int add(int k, double square) {
            if (!full()) {
                wanted[count] = k;
                wishedSquares[count] = square;
                count++;
            }
            return count;
        }

        /** How many modes must be made for all wanted ones to be among them; 0 if none is wanted. */
        int modesNeeded() {
            int needed = 0;
            for (int wish = 0; wish < count; wish++) {
                needed = Math.max(needed, wanted[wish] + 1);
            }
            return needed;
        }

        /** The sum over the wishes; the set must hold as many modes as are needed. */
        double missedBy(ModeSet set) {
            double all = 0;
            for (int wish = 0; wish < count; wish++) {
                double e = set.squareOf(wanted[wish]) - wishedSquares[wish];
                all = all + e * e;
            }
            return all;
        }
    }
}

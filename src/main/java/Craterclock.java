import java.util.ArrayList;

/** Craters on a plain, counted by eyes and dated by a curve of anchors. */
public final class Craterclock {
    public static final int NONE = -1;
    public static final int ROCK = 0, SAND = 1, ICE = 2;

    private static final int SIDE = 16;
    private static final int MOST_CRATERS = 200;
    private static final int MOST_SIZE = 6;
    private static final int MOST_RAIN = 30;
    private static final int MOST_LESSENINGS = 100;
    private static final int MOST_LESS = 40;
    private static final int MOST_EYES = 6;
    private static final int MOST_SKILL = 9;
    private static final int MOST_ANCHORS = 8;
    private static final int MOST_RADIUS = 7;
    private static final long MOST_YEARS = 5000000000L;
    private static final long MOST_DENSITY = 100000000L;
    private static final long DENSITY_SCALE = 256000L;
    private static final int DRAW_MODULUS = 65537;

    private final Ground cells = new Ground(new int[SIDE]);
    private final ArrayList<Crater> fallen = new ArrayList<>();
    private final ArrayList<Lessening> lessenings = new ArrayList<>();
    private final ArrayList<Eye> eyes = new ArrayList<>();
    private final Curve curve = new Curve();
    private int drawn = 1;

    public Craterclock() {
    }

    // ---- the plain

    public int ground(int x, int y, int ground) throws IndexOutOfBoundsException, IllegalArgumentException {
        requireCell(x, y);
        requireRange(ground, ROCK, ICE);
        int before = cells.kindAt(x, y);
        cells.setKind(x, y, ground);
        return before;
    }

    public int stone(int x, int y, int size)
            throws IndexOutOfBoundsException, IllegalArgumentException, IllegalStateException {
        requireCell(x, y);
        requireRange(size, 1, MOST_SIZE);
        requireRoomForCraters(1);
        return dropStone(x, y, size);
    }

    public int draw(int x) throws IllegalArgumentException {
        requireRange(x, 1, DRAW_MODULUS - 1);
        int before = drawn;
        drawn = x;
        return before;
    }

    public int rain(int many) throws IllegalArgumentException, IllegalStateException {
        requireRange(many, 1, MOST_RAIN);
        requireRoomForCraters(many);
        for (int i = 0; i < many; i++) {
            int x = drawNext() % SIDE;
            int y = drawNext() % SIDE;
            int size = sizeDrawn(drawNext() % 64);
            dropStone(x, y, size);
        }
        return countLeft();
    }

    public int flood(int x, int y, int toX, int toY, int thick)
            throws IndexOutOfBoundsException, IllegalArgumentException, IllegalStateException {
        requireCell(x, y);
        requireCell(toX, toY);
        requireRange(thick, 1, MOST_LESS);
        requireOrder(x, y, toX, toY);
        requireRoomForLessening();
        return lessenAll(new Flood(fallen.size(), new Field(x, y, toX, toY), thick));
    }

    public int soften(int steps) throws IllegalArgumentException, IllegalStateException {
        requireRange(steps, 1, MOST_LESS);
        requireRoomForLessening();
        return lessenAll(new Softening(fallen.size(), cells.copy(), steps));
    }

    // ---- eyes, clocks

    public int eye(int skill) throws IllegalArgumentException, IllegalStateException {
        requireRange(skill, 1, MOST_SKILL);
        if (eyes.size() >= MOST_EYES) {
            throw new IllegalStateException("there are 6 eyes");
        }
        eyes.add(new Eye(skill));
        return eyes.size() - 1;
    }

    public int anchor(long years, long density) throws IllegalArgumentException, IllegalStateException {
        requireRange(years, 1, MOST_YEARS);
        requireRange(density, 1, MOST_DENSITY);
        if (!curve.canTake(years, density)) {
            throw new IllegalStateException("there are 8 anchors, or it has not more of both than the last");
        }
        return curve.take(years, density);
    }

    public int count(int eye, int x, int y, int toX, int toY, int least)
            throws IndexOutOfBoundsException, IllegalArgumentException {
        requireEyeAndCells(eye, x, y, toX, toY);
        requireRange(least, 1, MOST_RADIUS);
        requireOrder(x, y, toX, toY);
        return countSeen(eye, new Field(x, y, toX, toY), least);
    }

    public long age(int eye, int x, int y, int toX, int toY)
            throws IndexOutOfBoundsException, IllegalArgumentException, IllegalStateException {
        requireEyeAndCells(eye, x, y, toX, toY);
        requireOrder(x, y, toX, toY);
        long density = densitySeen(eye, new Field(x, y, toX, toY));
        if (curve.lackFor(density) != Curve.LACKS_NOTHING) {
            throw new IllegalStateException("there is no age");
        }
        return curve.yearsOf(density);
    }

    public int whyNot(int eye, int x, int y, int toX, int toY)
            throws IndexOutOfBoundsException, IllegalArgumentException {
        requireEyeAndCells(eye, x, y, toX, toY);
        requireOrder(x, y, toX, toY);
        return curve.lackFor(densitySeen(eye, new Field(x, y, toX, toY)));
    }

    // ---- questions

    public int craters() {
        return fallen.size();
    }

    public int about(int crater, int what) throws IndexOutOfBoundsException, IllegalArgumentException {
        requireCrater(crater);
        requireRange(what, 0, 3);
        Crater told = fallen.get(crater);
        switch (what) {
            case 0:
                return told.x;
            case 1:
                return told.y;
            case 2:
                return told.radius;
            default:
                return told.depth;
        }
    }

    public int depthAnew(int crater) throws IndexOutOfBoundsException {
        requireCrater(crater);
        return depthOnceMore(crater);
    }

    public int top(int x, int y) throws IndexOutOfBoundsException {
        requireCell(x, y);
        for (int n = fallen.size() - 1; n >= 0; n--) {
            Crater crater = fallen.get(n);
            if (crater.depth > 0 && crater.covers(x, y)) {
                return n;
            }
        }
        return NONE;
    }

    public int topAnew(int x, int y) throws IndexOutOfBoundsException {
        requireCell(x, y);
        for (int n = fallen.size() - 1; n >= 0; n--) {
            if (fallen.get(n).covers(x, y) && depthOnceMore(n) > 0) {
                return n;
            }
        }
        return NONE;
    }

    // ---- what falls, floods and softens

    private int dropStone(int x, int y, int size) {
        Crater made = new Crater(x, y, size, cells.kindAt(x, y));
        int gone = 0;
        for (int n = 0; n < fallen.size(); n++) {
            Crater older = fallen.get(n);
            if (older.lessen(older.lossBy(made))) {
                gone++;
            }
        }
        fallen.add(made);
        return gone;
    }

    private int drawNext() {
        drawn = (75 * drawn + 74) % DRAW_MODULUS;
        return drawn;
    }

    private static int sizeDrawn(int lot) {
        if (lot < 40) {
            return 1;
        }
        if (lot < 52) {
            return 2;
        }
        if (lot < 58) {
            return 3;
        }
        if (lot < 61) {
            return 4;
        }
        return lot < 63 ? 5 : 6;
    }

    private int lessenAll(Lessening lessening) {
        lessenings.add(lessening);
        int gone = 0;
        for (int n = 0; n < fallen.size(); n++) {
            Crater crater = fallen.get(n);
            if (crater.lessen(lessening.lossOf(crater))) {
                gone++;
            }
        }
        return gone;
    }

    private int countLeft() {
        int left = 0;
        for (int n = 0; n < fallen.size(); n++) {
            if (fallen.get(n).depth > 0) {
                left++;
            }
        }
        return left;
    }

    // No loss depends on another crater's depth or on the losses ahead of it,
    // and none gives depth back: so their order doesn't matter, nor does a
    // depth below 0 on the way.
    private int depthOnceMore(int number) {
        if (number < 0 || number >= fallen.size()) {
            return 0;
        }
        Crater crater = fallen.get(number);
        int depth = crater.firstDepth;
        for (int n = number + 1; n < fallen.size(); n++) {
            depth -= crater.lossBy(fallen.get(n));
        }
        for (int n = 0; n < lessenings.size(); n++) {
            Lessening lessening = lessenings.get(n);
            if (number < lessening.cratersThen) {
                depth -= lessening.lossOf(crater);
            }
        }
        return Math.max(0, depth);
    }

    // ---- what eyes see

    private int countSeen(int number, Field field, int least) {
        if (number < 0 || number >= eyes.size()) {
            return 0;
        }
        Eye eye = eyes.get(number);
        int seen = 0;
        for (int n = 0; n < fallen.size(); n++) {
            Crater crater = fallen.get(n);
            if (crater.radius >= least && field.has(crater.x, crater.y) && eye.sees(crater)) {
                seen++;
            }
        }
        return seen;
    }

    private long densitySeen(int eye, Field field) {
        return Curve.dividedDown(countSeen(eye, field, 1) * DENSITY_SCALE, field.cells());
    }

    // ---- what a call asks ahead of all else

    private static void requireCell(int x, int y) {
        if (x < 0 || x >= SIDE || y < 0 || y >= SIDE) {
            throw new IndexOutOfBoundsException("no such cell");
        }
    }

    private void requireCrater(int crater) {
        if (crater < 0 || crater >= fallen.size()) {
            throw new IndexOutOfBoundsException("no such crater");
        }
    }

    private void requireEyeAndCells(int eye, int x, int y, int toX, int toY) {
        if (eye < 0 || eye >= eyes.size()) {
            throw new IndexOutOfBoundsException("no such eye");
        }
        requireCell(x, y);
        requireCell(toX, toY);
    }

    private static void requireRange(long number, long least, long most) {
        if (number < least || number > most) {
            throw new IllegalArgumentException("out of range");
        }
    }

    private static void requireOrder(int x, int y, int toX, int toY) {
        if (toX < x || toY < y) {
            throw new IllegalArgumentException("the field goes to less than where it begins");
        }
    }

    private void requireRoomForCraters(int more) {
        if (fallen.size() + more > MOST_CRATERS) {
            throw new IllegalStateException("there would be more than 200 craters");
        }
    }

    private void requireRoomForLessening() {
        if (lessenings.size() >= MOST_LESSENINGS) {
            throw new IllegalStateException("100 floods and softenings were told");
        }
    }

    /** Of what each cell is: a row of cells is an int, two bits a cell, so that a copy is cheap to keep. */
    private static final class Ground {
        private final int[] rows;

        Ground(int[] rows) {
            this.rows = rows;
        }

        Ground copy() {
            return new Ground(rows.clone());
        }

        int kindAt(int x, int y) {
            if (y < 0 || y >= rows.length) {
                return ROCK;
            }
            return (rows[y] >>> (2 * x)) & 3;
        }

        void setKind(int x, int y, int kind) {
            if (y >= 0 && y < rows.length) {
                rows[y] = (rows[y] & ~(3 << (2 * x))) | (kind << (2 * x));
            }
        }
    }

    private static final class Field {
        private final int x, y, toX, toY;

        Field(int x, int y, int toX, int toY) {
            this.x = x;
            this.y = y;
            this.toX = toX;
            this.toY = toY;
        }

        boolean has(int cellX, int cellY) {
            return cellX >= x && cellX <= toX && cellY >= y && cellY <= toY;
        }

        int cells() {
            return (toX - x + 1) * (toY - y + 1);
        }
    }

    private static final class Crater {
        final int x, y, size, radius, firstDepth;
        int depth;

        Crater(int x, int y, int size, int kind) {
            this.x = x;
            this.y = y;
            this.size = size;
            this.radius = radiusOn(kind, size);
            this.firstDepth = depthOn(kind, size);
            this.depth = firstDepth;
        }

        private static int radiusOn(int kind, int size) {
            switch (kind) {
                case SAND:
                    return Math.max(1, size - 1);
                case ICE:
                    return size + 1;
                default:
                    return size;
            }
        }

        private static int depthOn(int kind, int size) {
            switch (kind) {
                case SAND:
                    return 3 * size;
                case ICE:
                    return 5 * size;
                default:
                    return 4 * size;
            }
        }

        boolean covers(int cellX, int cellY) {
            return isWithin(radius, cellX, cellY);
        }

        private boolean isWithin(int reach, int cellX, int cellY) {
            int dx = cellX - x;
            int dy = cellY - y;
            return dx * dx + dy * dy <= reach * reach;
        }

        /** How much depth a newer one takes; to be wiped out is to lose the first depth, as none is ever greater. */
        int lossBy(Crater newer) {
            if (radius <= newer.radius && isWithin(newer.radius, newer.x, newer.y)) {
                return firstDepth;
            }
            return isWithin(radius + newer.radius, newer.x, newer.y) ? newer.size : 0;
        }

        /** Whether it is gone by this; one that was gone ahead of it is not. */
        boolean lessen(int loss) {
            if (depth <= 0) {
                return false;
            }
            depth = Math.max(0, depth - loss);
            return depth == 0;
        }
    }

    /** A flood or a softening, kept with all that its losses go by, so that they can be found once more. */
    private abstract static class Lessening {
        final int cratersThen;

        Lessening(int cratersThen) {
            this.cratersThen = cratersThen;
        }

        abstract int lossOf(Crater crater);
    }

    private static final class Flood extends Lessening {
        private final Field field;
        private final int thick;

        Flood(int cratersThen, Field field, int thick) {
            super(cratersThen);
            this.field = field;
            this.thick = thick;
        }

        int lossOf(Crater crater) {
            return field.has(crater.x, crater.y) ? thick : 0;
        }
    }

    private static final class Softening extends Lessening {
        private final Ground cellsThen;
        private final int steps;

        Softening(int cratersThen, Ground cellsThen, int steps) {
            super(cratersThen);
            this.cellsThen = cellsThen;
            this.steps = steps;
        }

        int lossOf(Crater crater) {
            switch (cellsThen.kindAt(crater.x, crater.y)) {
                case SAND:
                    return steps;
                case ICE:
                    return 2 * steps;
                default:
                    return steps / 2;
            }
        }
    }

    private static final class Eye {
        private final int skill;

        Eye(int skill) {
            this.skill = skill;
        }

        boolean sees(Crater crater) {
            return crater.depth > 0 && crater.depth >= 10 - skill;
        }
    }

    private static final class Anchor {
        final long years, density;

        Anchor(long years, long density) {
            this.years = years;
            this.density = density;
        }
    }

    /** The anchors, each with more years and more density than the one ahead of it. */
    private static final class Curve {
        static final int LACKS_NOTHING = 0, LACKS_ANCHORS = 1, LACKS_REACH = 2;

        private final ArrayList<Anchor> anchors = new ArrayList<>();

        Curve() {
        }

        boolean canTake(long years, long density) {
            int many = anchors.size();
            if (many == 0) {
                return true;
            }
            Anchor last = anchors.get(many - 1);
            return many < MOST_ANCHORS && years > last.years && density > last.density;
        }

        int take(long years, long density) {
            anchors.add(new Anchor(years, density));
            return anchors.size();
        }

        int lackFor(long density) {
            int many = anchors.size();
            if (many < 2) {
                return LACKS_ANCHORS;
            }
            return density > anchors.get(many - 1).density ? LACKS_REACH : LACKS_NOTHING;
        }

        // Below the first anchor the years go by the density alone, which is
        // the line from 0 years of density 0.
        long yearsOf(long density) {
            long lowYears = 0;
            long lowDensity = 0;
            for (int n = 0; n < anchors.size(); n++) {
                Anchor high = anchors.get(n);
                if (density <= high.density) {
                    long moreYears = (high.years - lowYears) * (density - lowDensity);
                    return lowYears + dividedDown(moreYears, high.density - lowDensity);
                }
                lowYears = high.years;
                lowDensity = high.density;
            }
            return lowYears;
        }

        /** Of numbers that are not below 0; the divisor is at least 1 wherever this is called. */
        static long dividedDown(long number, long divisor) {
            return divisor > 0 ? number / divisor : 0;
        }
    }
}

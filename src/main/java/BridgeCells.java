/**
 * Heat bridges on cells: parts of a section as boxes on a grid, sides with films, the warmths that
 * settle, exactly in whole numbers; what flows, where a face is coldest and how far from the
 * outside, joints kept with their lengths.
 */
public final class BridgeCells {
    /** Nothing is there. */
    public static final int NOTHING = -1000000;

    private static final int MOST_ACROSS = 10;
    private static final int MOST_LEADS = 20;
    private static final int MOST_WARMTH = 10000;
    private static final int SIDES = 4;
    private static final int MOST_JOINTS = 10;
    private static final int MOST_LENGTH = 1000;

    private final Section section;
    private final long[] jointHeats = new long[MOST_JOINTS];
    private final int[] jointLengths = new int[MOST_JOINTS];
    private int joints = 0;

    /** An empty grid (x or y below 1 counts as 1, above 10 as 10). */
    public BridgeCells(int x, int y) {
        section = new Section(
                Math.max(1, Math.min(MOST_ACROSS, x)), Math.max(1, Math.min(MOST_ACROSS, y)));
    }

    /** All cells from one to another one get LEADS: how many cells have it above 0 then. */
    public int box(int i0, int j0, int i1, int j1, int leads) throws IllegalArgumentException {
        if (!section.holds(i0, j0) || !section.holds(i1, j1)) {
            throw new IllegalArgumentException("no such cell");
        }
        if (i0 > i1 || j0 > j1) {
            throw new IllegalArgumentException("the first column or row is behind the last one");
        }
        if (!isWithin(leads, 0, MOST_LEADS)) {
            throw new IllegalArgumentException("leads is out of its bounds");
        }
        section.fill(i0, j0, i1, j1, leads);
        return section.countThere();
    }

    /** A side's WARMTH and FILM: the FILM that it had. */
    public int side(int side, int warmth, int film) throws IllegalArgumentException {
        if (!isSide(side)) {
            throw new IllegalArgumentException("no such side");
        }
        if (!isWithin(warmth, -MOST_WARMTH, MOST_WARMTH)) {
            throw new IllegalArgumentException("warmth is out of its bounds");
        }
        if (!isWithin(film, 0, MOST_LEADS)) {
            throw new IllegalArgumentException("film is out of its bounds");
        }
        return section.changeSide(side, warmth, film);
    }

    /** A cell's LEADS. */
    public int leads(int i, int j) throws IllegalArgumentException {
        if (!section.holds(i, j)) {
            throw new IllegalArgumentException("no such cell");
        }
        return section.leadsAt(i, j);
    }

    /** A cell's WARMTH in THE STATE; NOTHING if its LEADS is 0. */
    public int warmth(int i, int j) throws IllegalArgumentException {
        if (!section.holds(i, j)) {
            throw new IllegalArgumentException("no such cell");
        }
        section.settle();
        return section.warmthAt(i, j);
    }

    /** A side's FLOW in THE STATE. */
    public long flow(int side) throws IllegalArgumentException {
        if (!isSide(side)) {
            throw new IllegalArgumentException("no such side");
        }
        section.settle();
        return section.flowOf(side);
    }

    /** Of THE STATE: 0 HEAT, 1 REST, 2 the sum of all warmths, 3 how many cells stand alone. */
    public long told(int what) throws IllegalArgumentException {
        if (!isWithin(what, 0, 3)) {
            throw new IllegalArgumentException("what is out of its bounds");
        }
        section.settle();
        switch (what) {
            case 0:
                return section.heat();
            case 1:
                return section.rest();
            case 2:
                return section.sumOfWarmths();
            default:
                return section.countAlone();
        }
    }

    /** Of the cells beside a side: 0 the least warmth, 1 the column or row of it. */
    public int least(int side, int what) throws IllegalArgumentException {
        if (!isSide(side)) {
            throw new IllegalArgumentException("no such side");
        }
        if (!isWithin(what, 0, 1)) {
            throw new IllegalArgumentException("what is out of its bounds");
        }
        section.settle();
        int place = section.coldestAlong(side);
        if (place < 0) {
            return NOTHING;
        }
        return what == 0 ? section.warmthAlong(side, place) : place;
    }

    /** What that warmth is above LOW, by what HIGH is above LOW: above (0) and below (1). */
    public int factor(int side, int part) throws IllegalArgumentException {
        if (!isSide(side)) {
            throw new IllegalArgumentException("no such side");
        }
        if (!isWithin(part, 0, 1)) {
            throw new IllegalArgumentException("part is out of its bounds");
        }
        section.settle();
        int place = section.coldestAlong(side);
        int above = place < 0 ? 0 : section.aboveLow(side, place);
        int below = place < 0 ? 0 : section.highAboveLow();
        int shared = commonDivisor(above, below);
        if (below == 0 || shared == 0) {
            return part == 0 ? 0 : 1;
        }
        return part == 0 ? above / shared : below / shared;
    }

    /** How many cells with LEADS above 0 are less warm than so much. */
    public int colder(int warmth) throws IllegalArgumentException {
        if (!isWithin(warmth, -MOST_WARMTH, MOST_WARMTH)) {
            throw new IllegalArgumentException("warmth is out of its bounds");
        }
        section.settle();
        return section.countColder(warmth);
    }

    /** Whether all warmths are the same from both ends of each row (0), of each column (1). */
    public boolean mirrored(int axis) throws IllegalArgumentException {
        if (!isWithin(axis, 0, 1)) {
            throw new IllegalArgumentException("axis is out of its bounds");
        }
        section.settle();
        return axis == 0 ? section.rowsMirror() : section.columnsMirror();
    }

    // ---- joints

    /** THE STATE is kept as a JOINT: its number. */
    public int joint() throws IllegalStateException {
        if (joints >= MOST_JOINTS) {
            throw new IllegalStateException("there are 10 joints");
        }
        section.settle();
        jointHeats[joints] = section.heat();
        jointLengths[joints] = 0;
        joints++;
        return joints - 1;
    }

    /** A JOINT's LENGTH: what it was. */
    public int length(int joint, int metres) throws IllegalArgumentException {
        if (!isJoint(joint)) {
            throw new IllegalArgumentException("no such joint");
        }
        if (!isWithin(metres, 0, MOST_LENGTH)) {
            throw new IllegalArgumentException("metres is out of its bounds");
        }
        int before = jointLengths[joint];
        jointLengths[joint] = metres;
        return before;
    }

    /** How much the HEAT is now more than a JOINT's. */
    public long differs(int joint) throws IllegalArgumentException {
        if (!isJoint(joint)) {
            throw new IllegalArgumentException("no such joint");
        }
        section.settle();
        return section.heat() - jointHeats[joint];
    }

    /** The sum over all JOINTS of HEAT times LENGTH. */
    public long sum() {
        long total = 0;
        for (int joint = 0; joint < joints; joint++) {
            total += jointHeats[joint] * jointLengths[joint];
        }
        return total;
    }

    private boolean isJoint(int joint) {
        return isWithin(joint, 0, joints - 1);
    }

    private static boolean isSide(int side) {
        return isWithin(side, 0, SIDES - 1);
    }

    private static boolean isWithin(int number, int first, int last) {
        return number >= first && number <= last;
    }

    private static int commonDivisor(int one, int other) {
        int a = one;
        int b = other;
        // Numbers of 32 bits need fewer than 50 steps.
        for (int step = 0; step < 64 && b != 0; step++) {
            int left = a % b;
            a = b;
            b = left;
        }
        return a;
    }

    /**
     * The grid with its sides, and THE STATE.
     *
     * <p>Rows of numbers over the grid have a border one cell wide. A border cell stands for the
     * side that it lies in: it bears that side's FILM as its leads and that side's WARMTH, so that
     * G of two cells and G of a cell with a side are one and the same rule, and a neighbour's place
     * is always inside the row.
     */
    private static final class Section {
        private final int columns;
        private final int rows;
        private final int stride;
        private final int[] conduct;
        private final int[] warm;
        /** G of a place with the one to the right of it. */
        private final int[] east;
        /** G of a place with the one of the next row. */
        private final int[] south;
        /** The sum of a cell's G with all its neighbours. */
        private final int[] weight;
        /** The sum over a cell's neighbours of G times (their warmth less its own). */
        private final int[] surplus;
        private final int[] sideWarmth = new int[SIDES];
        private final int[] sideFilm = new int[SIDES];
        private int low = 0;
        private int high = 0;
        private boolean settled = false;

        Section(int columns, int rows) {
            this.columns = columns;
            this.rows = rows;
            this.stride = columns + 2;
            int places = (columns + 2) * (rows + 2);
            this.conduct = new int[places];
            this.warm = new int[places];
            this.east = new int[places];
            this.south = new int[places];
            this.weight = new int[places];
            this.surplus = new int[places];
        }

        boolean holds(int i, int j) {
            return i >= 0 && i < columns && j >= 0 && j < rows;
        }

        int leadsAt(int i, int j) {
            return conduct[place(i, j)];
        }

        int warmthAt(int i, int j) {
            int cell = place(i, j);
            return conduct[cell] > 0 ? warm[cell] : NOTHING;
        }

        void fill(int i0, int j0, int i1, int j1, int leads) {
            for (int j = j0; j <= j1; j++) {
                for (int i = i0; i <= i1; i++) {
                    conduct[place(i, j)] = leads;
                }
            }
            settled = false;
        }

        int changeSide(int side, int warmth, int film) {
            int before = sideFilm[side];
            sideWarmth[side] = warmth;
            sideFilm[side] = film;
            int count = countAlong(side);
            for (int k = 0; k < count; k++) {
                int border = cellAlong(side, k) + outward(side);
                conduct[border] = film;
                warm[border] = warmth;
            }
            settled = false;
            return before;
        }

        /** Brings the warmths to THE STATE if something was changed since they last were. */
        void settle() {
            if (settled) {
                return;
            }
            findLowAndHigh();
            joinNeighbours();
            startAtLow();
            // All start at LOW and only rise, none above what the rule asks of it in any state, so
            // they end in the least one. Each sweep but the last raises some cell by at least 1,
            // and none rises above HIGH.
            int mostSweeps = columns * rows * (high - low) + 1;
            boolean risen = true;
            for (int sweep = 0; sweep < mostSweeps && risen; sweep++) {
                risen = raiseAll();
            }
            settled = true;
        }

        int countThere() {
            int count = 0;
            for (int j = 0; j < rows; j++) {
                for (int i = 0; i < columns; i++) {
                    count += leadsAt(i, j) > 0 ? 1 : 0;
                }
            }
            return count;
        }

        int countAlone() {
            int count = 0;
            for (int j = 0; j < rows; j++) {
                for (int i = 0; i < columns; i++) {
                    count += leadsAt(i, j) > 0 && weight[place(i, j)] == 0 ? 1 : 0;
                }
            }
            return count;
        }

        int countColder(int warmth) {
            int count = 0;
            for (int j = 0; j < rows; j++) {
                for (int i = 0; i < columns; i++) {
                    count += leadsAt(i, j) > 0 && warmthAt(i, j) < warmth ? 1 : 0;
                }
            }
            return count;
        }

        long sumOfWarmths() {
            long total = 0;
            for (int j = 0; j < rows; j++) {
                for (int i = 0; i < columns; i++) {
                    total += leadsAt(i, j) > 0 ? warmthAt(i, j) : 0;
                }
            }
            return total;
        }

        boolean rowsMirror() {
            for (int j = 0; j < rows; j++) {
                for (int i = 0; i < columns; i++) {
                    if (warmthAt(i, j) != warmthAt(columns - 1 - i, j)) {
                        return false;
                    }
                }
            }
            return true;
        }

        boolean columnsMirror() {
            for (int j = 0; j < rows; j++) {
                for (int i = 0; i < columns; i++) {
                    if (warmthAt(i, j) != warmthAt(i, rows - 1 - j)) {
                        return false;
                    }
                }
            }
            return true;
        }

        long flowOf(int side) {
            long total = 0;
            int count = countAlong(side);
            for (int k = 0; k < count; k++) {
                int cell = cellAlong(side, k);
                total += couple(conduct[cell], sideFilm[side]) * (sideWarmth[side] - warm[cell]);
            }
            return total;
        }

        long heat() {
            long total = 0;
            for (int side = 0; side < SIDES; side++) {
                total += Math.max(0L, flowOf(side));
            }
            return total;
        }

        long rest() {
            long total = 0;
            for (int side = 0; side < SIDES; side++) {
                total += flowOf(side);
            }
            return total;
        }

        /** The column or row of the coldest cell beside a side, the least of several; or -1. */
        int coldestAlong(int side) {
            int best = -1;
            int count = countAlong(side);
            for (int k = 0; k < count; k++) {
                boolean there = conduct[cellAlong(side, k)] > 0;
                if (there && (best < 0 || warmthAlong(side, k) < warmthAlong(side, best))) {
                    best = k;
                }
            }
            return best;
        }

        int warmthAlong(int side, int k) {
            return warm[cellAlong(side, k)];
        }

        int aboveLow(int side, int k) {
            return warmthAlong(side, k) - low;
        }

        int highAboveLow() {
            return high - low;
        }

        private int place(int i, int j) {
            return (j + 1) * stride + i + 1;
        }

        private int countAlong(int side) {
            return side == 0 || side == 2 ? columns : rows;
        }

        private int cellAlong(int side, int k) {
            switch (side) {
                case 0:
                    return place(k, 0);
                case 1:
                    return place(columns - 1, k);
                case 2:
                    return place(k, rows - 1);
                default:
                    return place(0, k);
            }
        }

        /** How far it is from a cell beside a side to the border place in that side. */
        private int outward(int side) {
            switch (side) {
                case 0:
                    return -stride;
                case 1:
                    return 1;
                case 2:
                    return stride;
                default:
                    return -1;
            }
        }

        private void findLowAndHigh() {
            boolean found = false;
            low = 0;
            high = 0;
            for (int side = 0; side < SIDES; side++) {
                if (sideFilm[side] > 0) {
                    low = found ? Math.min(low, sideWarmth[side]) : sideWarmth[side];
                    high = found ? Math.max(high, sideWarmth[side]) : sideWarmth[side];
                    found = true;
                }
            }
        }

        private void joinNeighbours() {
            // From -1: the border's places before the first column and row have G with it too.
            for (int j = 0; j < rows; j++) {
                for (int i = -1; i < columns; i++) {
                    int at = place(i, j);
                    east[at] = couple(conduct[at], conduct[at + 1]);
                }
            }
            for (int j = -1; j < rows; j++) {
                for (int i = 0; i < columns; i++) {
                    int at = place(i, j);
                    south[at] = couple(conduct[at], conduct[at + stride]);
                }
            }
        }

        private void startAtLow() {
            for (int j = 0; j < rows; j++) {
                for (int i = 0; i < columns; i++) {
                    warm[place(i, j)] = low;
                }
            }
            for (int j = 0; j < rows; j++) {
                for (int i = 0; i < columns; i++) {
                    weigh(place(i, j));
                }
            }
        }

        private void weigh(int cell) {
            int toEast = east[cell];
            int toWest = east[cell - 1];
            int toSouth = south[cell];
            int toNorth = south[cell - stride];
            weight[cell] = toEast + toWest + toSouth + toNorth;
            surplus[cell] = toEast * (warm[cell + 1] - low)
                    + toWest * (warm[cell - 1] - low)
                    + toSouth * (warm[cell + stride] - low)
                    + toNorth * (warm[cell - stride] - low);
        }

        private boolean raiseAll() {
            boolean risen = false;
            for (int j = 0; j < rows; j++) {
                int first = place(0, j);
                for (int cell = first; cell < first + columns; cell++) {
                    if (weight[cell] > 0 && surplus[cell] >= weight[cell]) {
                        raise(cell, surplus[cell] / weight[cell]);
                        risen = true;
                    }
                }
            }
            return risen;
        }

        private void raise(int cell, int steps) {
            // What comes to the border's places is never looked at: sides do not rise.
            warm[cell] += steps;
            surplus[cell] -= steps * weight[cell];
            surplus[cell + 1] += steps * east[cell];
            surplus[cell - 1] += steps * east[cell - 1];
            surplus[cell + stride] += steps * south[cell];
            surplus[cell - stride] += steps * south[cell - stride];
        }

        private static int couple(int a, int b) {
            return a > 0 && b > 0 ? 2 * a * b / (a + b) : 0;
        }
    }
}

/**
 * The document's terms once more, as plainly as they stand there and with another way to THE
 * STATE: all cells are set anew from the last round's warmths until a round changes none.
 */
final class Model {
    final int columns;
    final int rows;
    final int[][] leads;
    final int[] warmth = new int[4];
    final int[] film = new int[4];
    private final long[] heats = new long[10];
    private final int[] lengths = new int[10];
    private int joints = 0;
    private int[][] state;

    Model(int x, int y) {
        columns = x < 1 ? 1 : x > 10 ? 10 : x;
        rows = y < 1 ? 1 : y > 10 ? 10 : y;
        leads = new int[columns][rows];
    }

    static int g(int a, int b) {
        return a > 0 && b > 0 ? 2 * a * b / (a + b) : 0;
    }

    boolean has(int i, int j) {
        return i >= 0 && i < columns && j >= 0 && j < rows;
    }

    boolean isBeside(int i, int j, int side) {
        return side == 0 ? j == 0 : side == 1 ? i == columns - 1 : side == 2 ? j == rows - 1 : i == 0;
    }

    int low() {
        int low = Integer.MAX_VALUE;
        for (int side = 0; side < 4; side++) {
            low = film[side] > 0 ? Math.min(low, warmth[side]) : low;
        }
        return low == Integer.MAX_VALUE ? 0 : low;
    }

    int high() {
        int high = Integer.MIN_VALUE;
        for (int side = 0; side < 4; side++) {
            high = film[side] > 0 ? Math.max(high, warmth[side]) : high;
        }
        return high == Integer.MIN_VALUE ? 0 : high;
    }

    /** What THE STATE's rule asks of a cell when the others are as told. */
    int asked(int[][] now, int i, int j) {
        long over = 0;
        long under = 0;
        int[][] beside = {{i - 1, j}, {i + 1, j}, {i, j - 1}, {i, j + 1}};
        for (int[] other : beside) {
            if (has(other[0], other[1])) {
                int g = g(leads[i][j], leads[other[0]][other[1]]);
                over += (long) g * now[other[0]][other[1]];
                under += g;
            }
        }
        for (int side = 0; side < 4; side++) {
            if (isBeside(i, j, side)) {
                int g = g(leads[i][j], film[side]);
                over += (long) g * warmth[side];
                under += g;
            }
        }
        return under == 0 ? low() : (int) Math.floorDiv(over, under);
    }

    int[][] state() {
        if (state != null) {
            return state;
        }
        int[][] now = new int[columns][rows];
        for (int[] column : now) {
            java.util.Arrays.fill(column, low());
        }
        boolean changed = true;
        while (changed) {
            changed = false;
            int[][] next = new int[columns][rows];
            for (int i = 0; i < columns; i++) {
                for (int j = 0; j < rows; j++) {
                    next[i][j] = leads[i][j] > 0 ? asked(now, i, j) : low();
                    changed |= next[i][j] != now[i][j];
                }
            }
            now = next;
        }
        state = now;
        return state;
    }

    long box(int i0, int j0, int i1, int j1, int number) {
        if (!has(i0, j0) || !has(i1, j1) || i0 > i1 || j0 > j1 || number < 0 || number > 20) {
            return Check.ARGUMENT;
        }
        state = null;
        int count = 0;
        for (int i = 0; i < columns; i++) {
            for (int j = 0; j < rows; j++) {
                leads[i][j] = i >= i0 && i <= i1 && j >= j0 && j <= j1 ? number : leads[i][j];
                count += leads[i][j] > 0 ? 1 : 0;
            }
        }
        return count;
    }

    long side(int side, int newWarmth, int newFilm) {
        boolean fits = newWarmth >= -10000 && newWarmth <= 10000 && newFilm >= 0 && newFilm <= 20;
        if (side < 0 || side > 3 || !fits) {
            return Check.ARGUMENT;
        }
        state = null;
        int before = film[side];
        warmth[side] = newWarmth;
        film[side] = newFilm;
        return before;
    }

    long leads(int i, int j) {
        return has(i, j) ? leads[i][j] : Check.ARGUMENT;
    }

    long warmth(int i, int j) {
        return !has(i, j) ? Check.ARGUMENT : leads[i][j] == 0 ? -1000000 : state()[i][j];
    }

    long flow(int side) {
        if (side < 0 || side > 3) {
            return Check.ARGUMENT;
        }
        long flow = 0;
        for (int i = 0; i < columns; i++) {
            for (int j = 0; j < rows; j++) {
                if (isBeside(i, j, side)) {
                    flow += (long) g(leads[i][j], film[side]) * (warmth[side] - state()[i][j]);
                }
            }
        }
        return flow;
    }

    private boolean standsAlone(int i, int j) {
        boolean joined = has(i - 1, j) && leads[i - 1][j] > 0 || has(i + 1, j) && leads[i + 1][j] > 0
                || has(i, j - 1) && leads[i][j - 1] > 0 || has(i, j + 1) && leads[i][j + 1] > 0;
        for (int side = 0; side < 4; side++) {
            joined |= isBeside(i, j, side) && film[side] > 0;
        }
        return leads[i][j] > 0 && !joined;
    }

    long told(int what) {
        if (what < 0 || what > 3) {
            return Check.ARGUMENT;
        }
        long total = 0;
        if (what < 2) {
            for (int side = 0; side < 4; side++) {
                total += what == 1 || flow(side) > 0 ? flow(side) : 0;
            }
            return total;
        }
        for (int i = 0; i < columns; i++) {
            for (int j = 0; j < rows; j++) {
                if (what == 2) {
                    total += leads[i][j] > 0 ? state()[i][j] : 0;
                } else {
                    total += standsAlone(i, j) ? 1 : 0;
                }
            }
        }
        return total;
    }

    long least(int side, int what) {
        if (side < 0 || side > 3 || what < 0 || what > 1) {
            return Check.ARGUMENT;
        }
        long warm = Long.MAX_VALUE;
        long place = -1;
        for (int i = columns - 1; i >= 0; i--) {
            for (int j = rows - 1; j >= 0; j--) {
                if (isBeside(i, j, side) && leads[i][j] > 0 && state()[i][j] <= warm) {
                    warm = state()[i][j];
                    place = side % 2 == 0 ? i : j;
                }
            }
        }
        return place < 0 ? -1000000 : what == 0 ? warm : place;
    }

    long factor(int side, int part) {
        if (side < 0 || side > 3 || part < 0 || part > 1) {
            return Check.ARGUMENT;
        }
        if (high() == low() || least(side, 1) < 0) {
            return part;
        }
        long above = least(side, 0) - low();
        long below = high() - low();
        for (long by = below; by > 1; by--) {
            if (above % by == 0 && below % by == 0) {
                above /= by;
                below /= by;
            }
        }
        return part == 0 ? above : below;
    }

    long colder(int than) {
        if (than < -10000 || than > 10000) {
            return Check.ARGUMENT;
        }
        int count = 0;
        for (int i = 0; i < columns; i++) {
            for (int j = 0; j < rows; j++) {
                count += leads[i][j] > 0 && state()[i][j] < than ? 1 : 0;
            }
        }
        return count;
    }

    long mirrored(int axis) {
        if (axis < 0 || axis > 1) {
            return Check.ARGUMENT;
        }
        boolean same = true;
        for (int i = 0; i < columns; i++) {
            for (int j = 0; j < rows; j++) {
                long other = axis == 0 ? warmth(columns - 1 - i, j) : warmth(i, rows - 1 - j);
                same &= warmth(i, j) == other;
            }
        }
        return same ? 1 : 0;
    }

    long joint() {
        if (joints == 10) {
            return Check.STATE;
        }
        heats[joints] = told(0);
        return joints++;
    }

    long length(int joint, int metres) {
        if (joint < 0 || joint >= joints || metres < 0 || metres > 1000) {
            return Check.ARGUMENT;
        }
        int before = lengths[joint];
        lengths[joint] = metres;
        return before;
    }

    long differs(int joint) {
        return joint < 0 || joint >= joints ? Check.ARGUMENT : told(0) - heats[joint];
    }

    long sum() {
        long total = 0;
        for (int joint = 0; joint < joints; joint++) {
            total += heats[joint] * lengths[joint];
        }
        return total;
    }
}

/** Each sentence of promises 8 to 11 that names a boundary case, with its own test. */
public final class ColdestEdgesTest {
    private static final int NOTHING = -1000000;

    public static void main(String[] args) {
        Check.sentence("Promise 8", "Of the cells beside a side with LEADS above 0",
                ColdestEdgesTest::besideASide);
        Check.sentence("Promise 8", "what = 0 the least warmth", ColdestEdgesTest::leastWarmth);
        Check.sentence("Promise 8", "1 the column or row of it, the least of several",
                ColdestEdgesTest::leastPlace);
        Check.sentence("Promise 8", "NOTHING if there are none", ColdestEdgesTest::noneBesideASide);
        Check.sentence("Promise 8", "IllegalArgumentException", ColdestEdgesTest::refusedLeast);
        Check.sentence("Promise 9", "in lowest terms: above (part 0), below (1)",
                ColdestEdgesTest::lowestTerms);
        Check.sentence("Promise 9", "0 and 1 if HIGH is LOW", ColdestEdgesTest::highIsLow);
        Check.sentence("Promise 9", "or there is no such cell", ColdestEdgesTest::factorOfNoCell);
        Check.sentence("Promise 9", "IllegalArgumentException", ColdestEdgesTest::refusedFactors);
        Check.sentence("Promise 10", "How many cells with LEADS above 0",
                ColdestEdgesTest::nothingIsNotCold);
        Check.sentence("Promise 10", "are less warm than so much", ColdestEdgesTest::lessWarm);
        Check.sentence("Promise 10", "(-10000 .. 10000)", ColdestEdgesTest::boundsOfColder);
        Check.sentence("Promise 10", "IllegalArgumentException", ColdestEdgesTest::refusedColder);
        Check.sentence("Promise 11", "the same from both ends of each row (axis 0)",
                ColdestEdgesTest::mirroredRows);
        Check.sentence("Promise 11", "of each column (axis 1)", ColdestEdgesTest::mirroredColumns);
        Check.sentence("Promise 11", "(and NOTHING)", ColdestEdgesTest::mirroredNothing);
        Check.sentence("Promise 11", "IllegalArgumentException", ColdestEdgesTest::refusedMirrored);
        Check.end();
    }

    private static void check(String name, BridgeCells cells, int side, int warmth, int place) {
        Check.due(name + ": the least of side " + side, cells.least(side, 0), warmth);
        Check.due(name + ": its place at side " + side, cells.least(side, 1), place);
    }

    /** The coldest cell of all is inside, and the corners of two sides are empty. */
    private static void besideASide() {
        BridgeCells cells = new BridgeCells(5, 5);
        cells.box(2, 2, 2, 2, 1);
        int[][] middles = {{2, 0}, {4, 2}, {2, 4}, {0, 2}};
        for (int side = 0; side < 4; side++) {
            int i = middles[side][0];
            int j = middles[side][1];
            cells.box(i, j, i, j, 1);
            cells.side(side, 100 * side + 100, 1);
        }
        Check.due("the cell inside", cells.warmth(2, 2), 100);
        for (int side = 0; side < 4; side++) {
            check("one in the middle", cells, side, 100 * side + 100, 2);
        }
        cells.box(4, 4, 4, 4, 1);
        // The corner is beside sides 1 and 2, at 200 and 300.
        check("with a corner", cells, 1, 200, 2);
        check("with a corner", cells, 2, 250, 4);
        cells.side(0, 100, 0);
        check("a side without film has cells beside it", cells, 0, 200, 2);
    }

    private static void leastWarmth() {
        BridgeCells cells = new BridgeCells(10, 10);
        cells.box(0, 0, 9, 9, 20);
        cells.side(0, 10000, 20);
        check("all at the greatest", cells, 2, 10000, 0);
        cells.side(0, -10000, 20);
        check("all at the least", cells, 2, -10000, 0);
        BridgeCells one = new BridgeCells(1, 1);
        one.box(0, 0, 0, 0, 1);
        one.side(1, -3, 1);
        one.side(3, -4, 1);
        for (int side = 0; side < 4; side++) {
            check("one cell beside all", one, side, -4, 0);
        }
        BridgeCells row = new BridgeCells(4, 1);
        row.box(0, 0, 3, 0, 1);
        row.side(3, 80, 1);
        row.side(1, 0, 1);
        check("the last one of a row", row, 0, row.warmth(3, 0), 3);
        check("the last one of a row", row, 2, row.warmth(3, 0), 3);
        Check.due("it is less than the one before", row.warmth(3, 0) < row.warmth(2, 0), true);
    }

    /** Cells alone are all at 0: any that is there is the coldest, and the first of them counts. */
    private static void leastPlace() {
        for (int first = 0; first < 10; first++) {
            BridgeCells cells = new BridgeCells(10, 10);
            cells.box(first, 0, 9, 0, 1);
            check("from column " + first, cells, 0, 0, first);
            cells.box(0, 0, 9, 9, 0);
            cells.box(first, 9, 9, 9, 1);
            check("from column " + first, cells, 2, 0, first);
            cells.box(0, 0, 9, 9, 0);
            cells.box(9, first, 9, 9, 1);
            check("from row " + first, cells, 1, 0, first);
            cells.box(0, 0, 9, 9, 0);
            cells.box(0, first, 0, 9, 1);
            check("from row " + first, cells, 3, 0, first);
        }
        BridgeCells ends = new BridgeCells(5, 1);
        ends.box(0, 0, 4, 0, 1);
        ends.side(1, 0, 1);
        ends.side(3, 0, 1);
        ends.side(0, 40, 1);
        Check.due("both ends are as cold", ends.warmth(0, 0), ends.warmth(4, 0));
        Check.due("the middle is warmer", ends.warmth(2, 0) > ends.warmth(0, 0), true);
        check("both ends", ends, 2, ends.warmth(4, 0), 0);
    }

    private static void noneBesideASide() {
        BridgeCells cells = new BridgeCells(3, 3);
        for (int side = 0; side < 4; side++) {
            cells.side(side, 10 * side, 5);
            check("an empty grid", cells, side, NOTHING, NOTHING);
        }
        cells.box(1, 1, 1, 1, 20);
        for (int side = 0; side < 4; side++) {
            check("one inside", cells, side, NOTHING, NOTHING);
        }
        cells.box(0, 0, 2, 0, 20);
        check("the row across", cells, 2, NOTHING, NOTHING);
        check("the corner of it", cells, 3, cells.warmth(0, 0), 0);
        cells.box(0, 0, 2, 2, 0);
        for (int side = 0; side < 4; side++) {
            check("emptied again", cells, side, NOTHING, NOTHING);
        }
    }

    private static void refusedLeast() {
        for (int side : Sample.outside(0, 3)) {
            Sample.refuses("least " + side + " 0", c -> c.least(side, 0));
            Sample.refuses("least " + side + " 1", c -> c.least(side, 1));
        }
        for (int what : Sample.outside(0, 1)) {
            Sample.refuses("least 0 " + what, c -> c.least(0, what));
            Sample.refuses("least 3 " + what, c -> c.least(3, what));
        }
    }

    private static void factor(String name, BridgeCells cells, int side, int above, int below) {
        Check.due(name + ": above, of side " + side, cells.factor(side, 0), above);
        Check.due(name + ": below, of side " + side, cells.factor(side, 1), below);
    }

    /** One cell with G 1 to each side that has film. */
    private static BridgeCells cellBetween(int... warmths) {
        BridgeCells cells = new BridgeCells(1, 1);
        cells.box(0, 0, 0, 0, 1);
        for (int side = 0; side < warmths.length; side++) {
            cells.side(side, warmths[side], 1);
        }
        return cells;
    }

    private static void lowestTerms() {
        factor("half", cellBetween(0, 20000 / 2), 3, 1, 2);
        factor("half of the widest", cellBetween(-10000, 10000), 0, 1, 2);
        factor("a quarter of it", cellBetween(-10000, -10000, -10000, 10000), 1, 1, 4);
        factor("three quarters", cellBetween(10000, 10000, -10000, 10000), 2, 3, 4);
        factor("two thirds, rounded down", cellBetween(-10000, 10000, 10000), 2, 13333, 20000);
        factor("one third, rounded down", cellBetween(-10000, -10000, 10000), 2, 3333, 10000);
        factor("1 by 3", cellBetween(5, 8), 0, 1, 3);
        factor("6 by 9, a divisor that is no power of 2", cellBetween(0, 9, 9), 0, 2, 3);
        factor("0 by 1", cellBetween(7, 8), 0, 0, 1);
        factor("0 by more", cellBetween(-3, -3, -3, -1), 0, 0, 1);
        BridgeCells apart = new BridgeCells(1, 3);
        apart.box(0, 0, 0, 0, 1);
        apart.box(0, 2, 0, 2, 1);
        apart.side(0, 9000, 1);
        apart.side(2, -1000, 1);
        factor("as warm as HIGH", apart, 0, 1, 1);
        factor("as cold as LOW", apart, 2, 0, 1);
        factor("the colder of both", apart, 3, 0, 1);
    }

    private static void highIsLow() {
        factor("no film", cellBetween(), 0, 0, 1);
        for (int warmth = -10000; warmth <= 10000; warmth += 5000) {
            factor("one side at " + warmth, cellBetween(warmth), 0, 0, 1);
            factor("all sides at " + warmth,
                    cellBetween(warmth, warmth, warmth, warmth), 3, 0, 1);
            BridgeCells other = cellBetween(warmth, warmth);
            other.side(2, 9999, 0);
            factor("another without film", other, 2, 0, 1);
        }
        BridgeCells back = cellBetween(0, 10);
        factor("before", back, 0, 1, 2);
        back.side(1, 0, 1);
        factor("when it is so again", back, 0, 0, 1);
    }

    private static void factorOfNoCell() {
        BridgeCells cells = new BridgeCells(3, 3);
        cells.side(0, 90, 5);
        cells.side(1, -90, 5);
        for (int side = 0; side < 4; side++) {
            factor("an empty grid", cells, side, 0, 1);
        }
        cells.box(1, 1, 1, 1, 1);
        for (int side = 0; side < 4; side++) {
            factor("one inside", cells, side, 0, 1);
        }
        cells.box(0, 0, 0, 0, 1);
        factor("one beside", cells, 0, 1, 1);
        factor("one beside", cells, 3, 1, 1);
        factor("none across", cells, 1, 0, 1);
        factor("none across", cells, 2, 0, 1);
    }

    private static void refusedFactors() {
        for (int side : Sample.outside(0, 3)) {
            Sample.refuses("factor " + side + " 0", c -> c.factor(side, 0));
            Sample.refuses("factor " + side + " 1", c -> c.factor(side, 1));
        }
        for (int part : Sample.outside(0, 1)) {
            Sample.refuses("factor 0 " + part, c -> c.factor(0, part));
            Sample.refuses("factor 3 " + part, c -> c.factor(3, part));
        }
    }

    private static void nothingIsNotCold() {
        BridgeCells cells = new BridgeCells(10, 10);
        Check.due("an empty grid", cells.colder(10000), 0);
        cells.box(9, 9, 9, 9, 1);
        Check.due("one cell", cells.colder(10000), 1);
        cells.box(0, 0, 9, 9, 20);
        Check.due("all cells", cells.colder(10000), 100);
        cells.box(0, 0, 0, 0, 0);
        Check.due("all but one", cells.colder(10000), 99);
        cells.box(0, 0, 9, 9, 0);
        Check.due("emptied again", cells.colder(10000), 0);
    }

    private static void lessWarm() {
        int[] warmths = {-9999, -1, 0, 1, 10000};
        for (int warmth : warmths) {
            BridgeCells cells = cellBetween(warmth);
            Check.due("less than itself: " + warmth, cells.colder(warmth), 0);
            Check.due("less than one less: " + warmth, cells.colder(warmth - 1), 0);
            if (warmth < 10000) {
                Check.due("less than one more: " + warmth, cells.colder(warmth + 1), 1);
            }
        }
    }

    private static void boundsOfColder() {
        Check.due("at the least: not less than -10000", cellBetween(-10000).colder(-10000), 0);
        Check.due("at the least: less than -9999", cellBetween(-10000).colder(-9999), 1);
        Check.due("at the least: less than 10000", cellBetween(-10000).colder(10000), 1);
        Check.due("at 9999: less than 10000", cellBetween(9999).colder(10000), 1);
        Check.due("at the greatest: not less than 10000", cellBetween(10000).colder(10000), 0);
        Check.due("at the greatest: not less than -10000", cellBetween(10000).colder(-10000), 0);
    }

    private static void refusedColder() {
        for (int warmth : Sample.outside(-10000, 10000)) {
            Sample.refuses("colder " + warmth, c -> c.colder(warmth));
        }
    }

    private static void mirror(String name, BridgeCells cells, boolean rows, boolean columns) {
        Check.due(name + ", axis 0", cells.mirrored(0), rows);
        Check.due(name + ", axis 1", cells.mirrored(1), columns);
    }

    /** In each row in turn the two ends differ by 1, or are the same. */
    private static void mirroredRows() {
        for (int row = 0; row < 4; row++) {
            BridgeCells cells = new BridgeCells(3, 4);
            cells.box(0, row, 0, row, 1);
            cells.box(2, row, 2, row, 20);
            cells.side(3, 5, 1);
            cells.side(1, 6, 1);
            Check.due("the ends of row " + row, cells.mirrored(0), false);
            cells.side(1, 5, 1);
            Check.due("the same ends of row " + row, cells.mirrored(0), true);
            cells.box(1, row, 1, row, 7);
            Check.due("with a middle in row " + row, cells.mirrored(0), true);
        }
        BridgeCells column = new BridgeCells(1, 4);
        column.box(0, 0, 0, 3, 20);
        column.side(0, 100, 20);
        column.side(2, 0, 20);
        mirror("one column is the same from both ends of a row", column, true, false);
    }

    private static void mirroredColumns() {
        for (int i = 0; i < 4; i++) {
            BridgeCells cells = new BridgeCells(4, 3);
            cells.box(i, 0, i, 0, 1);
            cells.box(i, 2, i, 2, 20);
            cells.side(0, 5, 1);
            cells.side(2, 6, 1);
            Check.due("the ends of column " + i, cells.mirrored(1), false);
            cells.side(2, 5, 1);
            Check.due("the same ends of column " + i, cells.mirrored(1), true);
            cells.box(i, 1, i, 1, 7);
            Check.due("with a middle in column " + i, cells.mirrored(1), true);
        }
        BridgeCells row = new BridgeCells(4, 1);
        row.box(0, 0, 3, 0, 20);
        row.side(1, 100, 20);
        row.side(3, 0, 20);
        mirror("one row is the same from both ends of a column", row, false, true);
    }

    private static void mirroredNothing() {
        mirror("an empty grid", new BridgeCells(10, 10), true, true);
        mirror("the least grid", new BridgeCells(1, 1), true, true);
        mirror("the least grid with a cell", cellBetween(5), true, true);
        for (int i = 0; i < 4; i++) {
            for (int j = 0; j < 4; j++) {
                BridgeCells one = new BridgeCells(4, 4);
                one.box(i, j, i, j, 1);
                mirror("nothing across from " + i + " " + j, one, false, false);
                one.box(3 - i, j, 3 - i, j, 20);
                mirror("a cell across in row " + j, one, true, false);
                one.box(3 - i, j, 3 - i, j, 0);
                one.box(i, 3 - j, i, 3 - j, 20);
                mirror("a cell across in column " + i, one, false, true);
                one.box(3 - i, j, 3 - i, j, 2);
                one.box(3 - i, 3 - j, 3 - i, 3 - j, 3);
                mirror("four cells", one, true, true);
            }
        }
        BridgeCells odd = new BridgeCells(3, 3);
        odd.box(1, 1, 1, 1, 1);
        mirror("one in the middle", odd, true, true);
        odd.box(0, 0, 2, 2, 9);
        odd.box(1, 1, 1, 1, 0);
        mirror("nothing in the middle", odd, true, true);
    }

    private static void refusedMirrored() {
        for (int axis : Sample.outside(0, 1)) {
            Sample.refuses("mirrored " + axis, c -> c.mirrored(axis) ? 1 : 0);
        }
    }
}

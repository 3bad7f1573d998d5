/** Each sentence of promises 1 to 4 that names a boundary case, with its own test. */
public final class GridEdgesTest {
    private static final int NOTHING = -1000000;

    public static void main(String[] args) {
        Check.sentence("Promise 1", "An empty grid", GridEdgesTest::anEmptyGrid);
        Check.sentence("Promise 1", "x or y below 1 counts as 1", GridEdgesTest::belowOne);
        Check.sentence("Promise 1", "above 10 as 10", GridEdgesTest::aboveTen);
        Check.sentence("Promise 2", "All cells from one to another one (both with",
                GridEdgesTest::fromOneToAnother);
        Check.sentence("Promise 2", "columns and rows not falling", GridEdgesTest::notFalling);
        Check.sentence("Promise 2", "how many cells have it above 0 then", GridEdgesTest::howMany);
        Check.sentence("Promise 2", "IllegalArgumentException: also",
                GridEdgesTest::refusedBoxes);
        Check.sentence("Promise 2",
                "IllegalArgumentException: also if the first column or row is behind the last one",
                GridEdgesTest::fallingBoxes);
        Check.sentence("Promise 3", "A side's WARMTH and FILM", GridEdgesTest::bothOfASide);
        Check.sentence("Promise 3", "the FILM that it had", GridEdgesTest::filmThatItHad);
        Check.sentence("Promise 3", "IllegalArgumentException", GridEdgesTest::refusedSides);
        Check.sentence("Promise 4", "A cell's LEADS", GridEdgesTest::leadsOfCells);
        Check.sentence("Promise 4", "IllegalArgumentException", GridEdgesTest::refusedLeads);
        Check.end();
    }

    private static void anEmptyGrid() {
        for (int size = 1; size <= 10; size++) {
            BridgeCells cells = new BridgeCells(size, 11 - size);
            for (int i = 0; i < size; i++) {
                for (int j = 0; j < 11 - size; j++) {
                    Check.due("leads " + i + " " + j, cells.leads(i, j), 0);
                    Check.due("warmth " + i + " " + j, cells.warmth(i, j), NOTHING);
                }
            }
            for (int what = 0; what < 4; what++) {
                Check.due("told " + what, cells.told(what), 0);
            }
            Check.due("colder", cells.colder(10000), 0);
            Check.due("sum", cells.sum(), 0);
            Check.due("no joint has a length", Check.answer(() -> cells.length(0, 1)), Check.ARGUMENT);
            Check.due("no joint differs", Check.answer(() -> cells.differs(0)), Check.ARGUMENT);
            Check.due("the first joint", cells.joint(), 0);
            for (int side = 0; side < 4; side++) {
                Check.due("flow " + side, cells.flow(side), 0);
                Check.due("least " + side, cells.least(side, 0), NOTHING);
                Check.due("film " + side, cells.side(side, 1, 1), 0);
            }
        }
    }

    private static void belowOne() {
        int[] small = {1, 0, -1, -10, -11, -256, Integer.MIN_VALUE + 1, Integer.MIN_VALUE};
        for (int number : small) {
            hasSize(number, 7, 1, 7);
            hasSize(7, number, 7, 1);
            hasSize(number, number, 1, 1);
        }
        hasSize(2, 2, 2, 2);
    }

    private static void aboveTen() {
        int[] great = {10, 11, 12, 20, 256, 257, 65536 + 3, 1 << 30, Integer.MAX_VALUE};
        for (int number : great) {
            hasSize(number, 3, 10, 3);
            hasSize(3, number, 3, 10);
            hasSize(number, number, 10, 10);
            hasSize(number, 0, 10, 1);
            hasSize(0, number, 1, 10);
        }
        hasSize(9, 9, 9, 9);
    }

    /** So many cells are there, and the last one can be used. */
    private static void hasSize(int x, int y, int columns, int rows) {
        BridgeCells cells = new BridgeCells(x, y);
        String made = "made with " + x + " and " + y + ": ";
        Check.due(made + "columns", Seen.columns(cells), columns);
        Check.due(made + "rows", Seen.rows(cells), rows);
        Check.due(made + "all cells", cells.box(0, 0, columns - 1, rows - 1, 1), columns * rows);
        Check.due(made + "behind the last column",
                Check.answer(() -> cells.box(0, 0, columns, rows - 1, 1)), Check.ARGUMENT);
        Check.due(made + "behind the last row",
                Check.answer(() -> cells.box(0, 0, columns - 1, rows, 1)), Check.ARGUMENT);
        Check.due(made + "the last cell", cells.warmth(columns - 1, rows - 1), 0);
    }

    /** Every box on a grid of 4 x 3: the cells in it, those at its corners too, and no other. */
    private static void fromOneToAnother() {
        for (int i0 = 0; i0 < 4; i0++) {
            for (int i1 = i0; i1 < 4; i1++) {
                for (int j0 = 0; j0 < 3; j0++) {
                    for (int j1 = j0; j1 < 3; j1++) {
                        oneBox(i0, j0, i1, j1);
                    }
                }
            }
        }
    }

    private static void oneBox(int i0, int j0, int i1, int j1) {
        String box = "box " + i0 + " " + j0 + " " + i1 + " " + j1 + ": ";
        BridgeCells filled = new BridgeCells(4, 3);
        BridgeCells emptied = new BridgeCells(4, 3);
        emptied.box(0, 0, 3, 2, 7);
        int count = (i1 - i0 + 1) * (j1 - j0 + 1);
        Check.due(box + "how many", filled.box(i0, j0, i1, j1, 20), count);
        Check.due(box + "how many are left", emptied.box(i0, j0, i1, j1, 0), 12 - count);
        for (int i = 0; i < 4; i++) {
            for (int j = 0; j < 3; j++) {
                boolean inside = i >= i0 && i <= i1 && j >= j0 && j <= j1;
                Check.due(box + "filled " + i + " " + j, filled.leads(i, j), inside ? 20 : 0);
                Check.due(box + "emptied " + i + " " + j, emptied.leads(i, j), inside ? 0 : 7);
            }
        }
    }

    private static void notFalling() {
        BridgeCells cells = new BridgeCells(4, 3);
        Check.due("one cell, the first", cells.box(0, 0, 0, 0, 1), 1);
        Check.due("one cell, the last", cells.box(3, 2, 3, 2, 1), 2);
        Check.due("one row", cells.box(0, 1, 3, 1, 1), 6);
        Check.due("one column", cells.box(2, 0, 2, 2, 1), 8);
        Check.due("all", cells.box(0, 0, 3, 2, 1), 12);
        BridgeCells one = new BridgeCells(1, 1);
        Check.due("the one cell there is", one.box(0, 0, 0, 0, 1), 1);
    }

    private static void howMany() {
        BridgeCells cells = new BridgeCells(10, 10);
        Check.due("nothing to nothing", cells.box(0, 0, 9, 9, 0), 0);
        Check.due("some", cells.box(0, 0, 4, 9, 1), 50);
        Check.due("the same again", cells.box(0, 0, 4, 9, 20), 50);
        Check.due("some over them", cells.box(3, 0, 6, 9, 1), 70);
        Check.due("all", cells.box(0, 0, 9, 9, 20), 100);
        Check.due("all but one", cells.box(9, 9, 9, 9, 0), 99);
        Check.due("that one again", cells.box(9, 9, 9, 9, 0), 99);
        Check.due("all but two", cells.box(0, 0, 0, 0, 0), 98);
        Check.due("none", cells.box(0, 0, 9, 9, 0), 0);
        Check.due("one", cells.box(5, 5, 5, 5, 1), 1);
    }

    private static void refusedBoxes() {
        for (int i : Sample.outside(0, 2)) {
            Sample.refuses("from column " + i, c -> c.box(i, 0, 2, 1, 9));
            Sample.refuses("to column " + i, c -> c.box(0, 0, i, 1, 9));
            Sample.refuses("in column " + i, c -> c.box(i, 0, i, 1, 9));
        }
        for (int j : Sample.outside(0, 1)) {
            Sample.refuses("from row " + j, c -> c.box(0, j, 2, 1, 9));
            Sample.refuses("to row " + j, c -> c.box(0, 0, 2, j, 9));
            Sample.refuses("in row " + j, c -> c.box(0, j, 2, j, 9));
        }
        for (int leads : Sample.outside(0, 20)) {
            Sample.refuses("leads " + leads, c -> c.box(0, 0, 2, 1, leads));
        }
    }

    private static void fallingBoxes() {
        Sample.refuses("column 1 to 0", c -> c.box(1, 0, 0, 1, 9));
        Sample.refuses("column 2 to 1", c -> c.box(2, 0, 1, 0, 9));
        Sample.refuses("column 2 to 0", c -> c.box(2, 1, 0, 1, 9));
        Sample.refuses("row 1 to 0", c -> c.box(0, 1, 2, 0, 9));
        Sample.refuses("row 1 to 0 in one column", c -> c.box(1, 1, 1, 0, 9));
        Sample.refuses("both", c -> c.box(2, 1, 0, 0, 9));
        Sample.refuses("both, with nothing", c -> c.box(2, 1, 0, 0, 0));
        Sample.refuses("column falling, leads out of bounds", c -> c.box(1, 0, 0, 1, 21));
    }

    private static void bothOfASide() {
        BridgeCells cells = new BridgeCells(1, 1);
        cells.box(0, 0, 0, 0, 20);
        cells.side(0, 10000, 20);
        Check.due("the greatest", cells.warmth(0, 0), 10000);
        cells.side(0, -10000, 1);
        Check.due("the least", cells.warmth(0, 0), -10000);
        cells.side(2, 10000, 20);
        // G is 40 / 21, which is 1, and 20: 190000 by 21.
        Check.due("film 1 and film 20", cells.warmth(0, 0), 9047);
        cells.side(0, -10000, 0);
        Check.due("no film: it is no side any more", cells.warmth(0, 0), 10000);
        cells.side(0, -10000, 20);
        Check.due("and again", cells.warmth(0, 0), 0);
    }

    private static void filmThatItHad() {
        BridgeCells cells = new BridgeCells(2, 2);
        for (int side = 0; side < 4; side++) {
            Check.due("at first " + side, cells.side(side, -1, 20 - side), 0);
        }
        for (int side = 0; side < 4; side++) {
            Check.due("each its own " + side, cells.side(side, 10000, 0), 20 - side);
        }
        for (int side = 0; side < 4; side++) {
            Check.due("it had none " + side, cells.side(side, -10000, 1), 0);
            Check.due("it had the least " + side, cells.side(side, -10000, 1), 1);
            Check.due("it had the same " + side, cells.side(side, 5, 20), 1);
            Check.due("it had the greatest " + side, cells.side(side, 5, 20), 20);
        }
    }

    private static void refusedSides() {
        for (int side : Sample.outside(0, 3)) {
            Sample.refuses("side " + side, c -> c.side(side, 500, 9));
        }
        for (int warmth : Sample.outside(-10000, 10000)) {
            for (int side = 0; side < 4; side++) {
                int number = side;
                Sample.refuses("side " + side + " at " + warmth, c -> c.side(number, warmth, 9));
            }
        }
        for (int film : Sample.outside(0, 20)) {
            for (int side = 0; side < 4; side++) {
                int number = side;
                Sample.refuses("side " + side + " film " + film, c -> c.side(number, 500, film));
            }
        }
    }

    private static void leadsOfCells() {
        BridgeCells cells = new BridgeCells(10, 9);
        Check.due("nothing", cells.leads(0, 0), 0);
        int[][] corners = {{0, 0}, {9, 0}, {9, 8}, {0, 8}};
        int[] leads = {20, 1, 19, 2};
        for (int corner = 0; corner < 4; corner++) {
            int i = corners[corner][0];
            int j = corners[corner][1];
            cells.box(i, j, i, j, leads[corner]);
        }
        cells.side(0, 5, 7);
        cells.side(3, 5, 7);
        for (int corner = 0; corner < 4; corner++) {
            Check.due("corner " + corner,
                    cells.leads(corners[corner][0], corners[corner][1]), leads[corner]);
        }
        Check.due("beside a corner", cells.leads(1, 0), 0);
        cells.box(0, 0, 9, 8, 0);
        for (int[] corner : corners) {
            Check.due("nothing again", cells.leads(corner[0], corner[1]), 0);
        }
    }

    private static void refusedLeads() {
        for (int i : Sample.outside(0, 2)) {
            Sample.refuses("leads " + i + " 0", c -> c.leads(i, 0));
            Sample.refuses("leads " + i + " 1", c -> c.leads(i, 1));
        }
        for (int j : Sample.outside(0, 1)) {
            Sample.refuses("leads 0 " + j, c -> c.leads(0, j));
            Sample.refuses("leads 2 " + j, c -> c.leads(2, j));
        }
    }
}

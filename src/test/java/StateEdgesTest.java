/** Each sentence of promises 5 to 7 that names a boundary case, with its own test. */
public final class StateEdgesTest {
    private static final int NOTHING = -1000000;

    public static void main(String[] args) {
        Check.sentence("Promise 5", "A cell's WARMTH in THE STATE", StateEdgesTest::warmthsAtTheEnds);
        Check.sentence("Promise 5", "NOTHING if its LEADS is 0", StateEdgesTest::warmthOfNothing);
        Check.sentence("Promise 5", "IllegalArgumentException", StateEdgesTest::refusedWarmths);
        Check.sentence("Promise 6", "A side's FLOW in THE STATE", StateEdgesTest::flowsAtTheEnds);
        Check.sentence("Promise 6", "IllegalArgumentException", StateEdgesTest::refusedFlows);
        Check.sentence("Promise 7", "what = 0 HEAT", StateEdgesTest::heats);
        Check.sentence("Promise 7", "1 REST", StateEdgesTest::rests);
        Check.sentence("Promise 7", "2 the sum of all cells' warmths", StateEdgesTest::sumsOfWarmths);
        Check.sentence("Promise 7",
                "3 how many cells with LEADS above 0 have no G above 0 with any cell or side",
                StateEdgesTest::cellsAlone);
        Check.sentence("Promise 7", "IllegalArgumentException", StateEdgesTest::refusedTold);
        Check.end();
    }

    private static BridgeCells full(int x, int y, int leads) {
        BridgeCells cells = new BridgeCells(x, y);
        cells.box(0, 0, x - 1, y - 1, leads);
        return cells;
    }

    private static void warmthsAtTheEnds() {
        BridgeCells warm = full(10, 10, 20);
        warm.side(1, 10000, 1);
        BridgeCells cold = full(10, 10, 1);
        cold.side(3, -10000, 20);
        for (int i = 0; i < 10; i++) {
            for (int j = 0; j < 10; j++) {
                Check.due("warmest " + i + " " + j, warm.warmth(i, j), 10000);
                Check.due("coldest " + i + " " + j, cold.warmth(i, j), -10000);
            }
        }
        farApart();
        Check.due("the one cell of the least grid", full(1, 1, 1).warmth(0, 0), 0);
        asSeenLast();
    }

    /** A row of ten between -10000 and 10000: each keeps the rule with its two neighbours. */
    private static void farApart() {
        BridgeCells row = full(10, 1, 20);
        row.side(3, -10000, 20);
        row.side(1, 10000, 20);
        for (int i = 0; i < 10; i++) {
            int left = i == 0 ? -10000 : row.warmth(i - 1, 0);
            int right = i == 9 ? 10000 : row.warmth(i + 1, 0);
            Check.due("in a row " + i, row.warmth(i, 0), Math.floorDiv(left + right, 2));
            Check.due("rising at " + i, right > left, true);
        }
    }

    /** What is changed between two questions shows in the next answer. */
    private static void asSeenLast() {
        BridgeCells cells = full(1, 1, 1);
        for (int warmth = 10; warmth > -10; warmth -= 4) {
            cells.side(0, warmth, 1);
            Check.due("with a side at " + warmth, cells.warmth(0, 0), warmth);
        }
        cells.box(0, 0, 0, 0, 0);
        Check.due("without the cell", cells.warmth(0, 0), NOTHING);
        cells.box(0, 0, 0, 0, 1);
        Check.due("with it again", cells.warmth(0, 0), -6);
    }

    private static void warmthOfNothing() {
        BridgeCells cells = new BridgeCells(3, 3);
        cells.side(0, 10000, 20);
        Check.due("in a new grid, beside a side", cells.warmth(0, 0), NOTHING);
        cells.box(0, 0, 2, 2, 20);
        Check.due("filled", cells.warmth(1, 1), 10000);
        cells.box(1, 1, 1, 1, 0);
        Check.due("emptied in the middle", cells.warmth(1, 1), NOTHING);
        Check.due("not emptied", cells.warmth(1, 2), 10000);
        cells.box(0, 0, 2, 2, 0);
        for (int i = 0; i < 3; i++) {
            for (int j = 0; j < 3; j++) {
                Check.due("all emptied " + i + " " + j, cells.warmth(i, j), NOTHING);
            }
        }
        cells.box(2, 2, 2, 2, 1);
        Check.due("the least LEADS is something", cells.warmth(2, 2), 10000);
    }

    private static void refusedWarmths() {
        for (int i : Sample.outside(0, 2)) {
            Sample.refuses("warmth " + i + " 0", c -> c.warmth(i, 0));
            Sample.refuses("warmth " + i + " 1", c -> c.warmth(i, 1));
        }
        for (int j : Sample.outside(0, 1)) {
            Sample.refuses("warmth 0 " + j, c -> c.warmth(0, j));
            Sample.refuses("warmth 2 " + j, c -> c.warmth(2, j));
        }
    }

    private static void flowsAtTheEnds() {
        for (int side = 0; side < 4; side++) {
            BridgeCells empty = new BridgeCells(2, 2);
            empty.side(side, 10000, 20);
            empty.side((side + 1) % 4, -10000, 20);
            Check.due("to no cell from side " + side, empty.flow(side), 0);
            BridgeCells filmless = full(2, 2, 20);
            filmless.side(side, 10000, 0);
            filmless.side((side + 1) % 4, -10000, 20);
            Check.due("without film from side " + side, filmless.flow(side), 0);
            Check.due("as cold as the cells", filmless.flow((side + 1) % 4), 0);
            greatestFlow(side);
        }
        BridgeCells inner = new BridgeCells(3, 3);
        inner.box(1, 1, 1, 1, 20);
        inner.side(0, 10000, 20);
        inner.side(2, -10000, 20);
        Check.due("to a cell that is not beside it", inner.flow(0), 0);
        inner.box(0, 0, 0, 0, 20);
        inner.box(0, 2, 0, 2, 20);
        Check.due("to one that is as warm as it", inner.flow(0), 0);
        inner.box(0, 0, 0, 2, 20);
        Check.due("through a column, into it", inner.flow(0) > 0, true);
        Check.due("through a column, out of it", inner.flow(2) < 0, true);
    }

    /**
     * Ten cells in a row along both sides are at -1, not at 0, which would hold too but is not the
     * least: 10 times 20 times 10001 comes in and 10 times 20 times 9999 goes out.
     */
    private static void greatestFlow(int side) {
        BridgeCells cells = side % 2 == 0 ? full(10, 1, 20) : full(1, 10, 20);
        cells.side(side, 10000, 20);
        cells.side((side + 2) % 4, -10000, 20);
        Check.due("ten cells with side " + side, cells.told(2), -10);
        Check.due("the flow of side " + side, cells.flow(side), 2000200);
        Check.due("the flow of the one across from " + side, cells.flow((side + 2) % 4), -1999800);
        Check.due("none of the one after " + side, cells.flow((side + 1) % 4), 0);
        Check.due("none of the one before " + side, cells.flow((side + 3) % 4), 0);
    }

    private static void refusedFlows() {
        for (int side : Sample.outside(0, 3)) {
            Sample.refuses("flow " + side, c -> c.flow(side));
        }
    }

    private static void heats() {
        BridgeCells cells = new BridgeCells(10, 1);
        Check.due("of nothing", cells.told(0), 0);
        cells.box(0, 0, 9, 0, 20);
        Check.due("without sides", cells.told(0), 0);
        cells.side(0, -10000, 20);
        Check.due("with one side", cells.told(0), 0);
        cells.side(2, 10000, 20);
        Check.due("ten cells at -1, 20 times 10001 each", cells.told(0), 2000200);
        cells.side(2, 10000, 0);
        Check.due("with one side again", cells.told(0), 0);
        cells.side(2, 10000, 20);
        cells.box(0, 0, 9, 0, 0);
        Check.due("of nothing again", cells.told(0), 0);
    }

    private static void rests() {
        BridgeCells cells = new BridgeCells(1, 1);
        Check.due("of nothing", cells.told(1), 0);
        cells.box(0, 0, 0, 0, 1);
        Check.due("without sides", cells.told(1), 0);
        cells.side(0, 1, 1);
        Check.due("with one side", cells.told(1), 0);
        cells.side(1, 0, 1);
        Check.due("1 and 0 with a cell at 0", cells.told(1), 1);
        cells.side(2, 1, 1);
        cells.side(3, 1, 1);
        Check.due("1, 0, 1 and 1 with a cell at 0", cells.told(1), 3);
        cells.side(1, 1, 1);
        Check.due("all at 1", cells.told(1), 0);
        cells.side(1, -1, 1);
        cells.side(3, -1, 1);
        Check.due("1, -1, 1 and -1", cells.told(1), 0);
    }

    private static void sumsOfWarmths() {
        BridgeCells cells = new BridgeCells(10, 10);
        cells.side(0, 10000, 1);
        Check.due("of no cell", cells.told(2), 0);
        cells.box(9, 0, 9, 0, 1);
        Check.due("of one, the others are nothing", cells.told(2), 10000);
        cells.box(0, 0, 9, 9, 20);
        Check.due("of all at the greatest", cells.told(2), 1000000);
        cells.side(0, -10000, 1);
        Check.due("of all at the least", cells.told(2), -1000000);
        cells.box(0, 0, 9, 8, 0);
        Check.due("of a row that is alone with LOW", cells.told(2), -100000);
        cells.box(0, 9, 9, 9, 0);
        Check.due("of no cell again", cells.told(2), 0);
    }

    private static void cellsAlone() {
        BridgeCells cells = new BridgeCells(10, 10);
        Check.due("of no cell", cells.told(3), 0);
        for (int i = 0; i < 10; i++) {
            for (int j = i % 2; j < 10; j += 2) {
                cells.box(i, j, i, j, 20);
            }
        }
        Check.due("every second cell, all alone", cells.told(3), 50);
        cells.side(0, 5, 0);
        Check.due("a side without film", cells.told(3), 50);
        cells.side(0, 5, 1);
        Check.due("a side with film beside five", cells.told(3), 45);
        cells.side(2, 5, 1);
        Check.due("two sides, beside ten", cells.told(3), 40);
        cells.side(1, 5, 1);
        cells.side(3, 5, 1);
        // Corners 0 0 and 9 9 are beside two sides each, and there is none in the other two.
        Check.due("four sides, beside eighteen", cells.told(3), 32);
        cells.box(0, 0, 9, 9, 1);
        Check.due("all cells, none alone", cells.told(3), 0);
        BridgeCells one = full(1, 1, 1);
        Check.due("the one cell of the least grid", one.told(3), 1);
        one.side(3, 0, 1);
        Check.due("with a side", one.told(3), 0);
    }

    private static void refusedTold() {
        for (int what : Sample.outside(0, 3)) {
            Sample.refuses("told " + what, c -> c.told(what));
        }
    }
}

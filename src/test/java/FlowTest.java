/** Promises 6 (flow) and 7 (told). */
public final class FlowTest {
    public static void main(String[] args) {
        flowsOfOneCell();
        flowsOverSeveralCells();
        heatOfSeveralSides();
        cellsThatStandAlone();
        refused();
        Check.end();
    }

    private static void flowsOfOneCell() {
        BridgeCells cells = new BridgeCells(1, 1);
        cells.side(0, 100, 3);
        Check.due("flow to nothing", cells.flow(0), 0);
        cells.box(0, 0, 0, 0, 7);
        cells.side(2, -51, 4);
        cells.side(1, 9000, 0);
        // G is 4 and 5, the cell is at 16.
        Check.due("flow 0", cells.flow(0), 336);
        Check.due("flow 2", cells.flow(2), -335);
        Check.due("a side without film", cells.flow(1), 0);
        Check.due("a side not set", cells.flow(3), 0);
        Check.due("heat", cells.told(0), 336);
        Check.due("rest", cells.told(1), 1);
        Check.due("sum of warmths", cells.told(2), 16);
    }

    private static void flowsOverSeveralCells() {
        BridgeCells cells = new BridgeCells(3, 2);
        cells.box(0, 0, 2, 0, 1);
        cells.box(0, 1, 2, 1, 20);
        cells.side(3, -1, 1);
        cells.side(1, 10, 20);
        // The state is 0 2 5 / 1 2 5; G with side 1 is 1 and 20, with side 3 it is 1 and 1.
        Check.due("flow 1", cells.flow(1), 105);
        Check.due("flow 3", cells.flow(3), -3);
        Check.due("flow 0", cells.flow(0), 0);
        Check.due("heat", cells.told(0), 105);
        Check.due("rest", cells.told(1), 102);
        Check.due("sum of warmths", cells.told(2), 15);
        cells.box(1, 0, 1, 0, 0);
        // Now it is 1 - 8 / 4 5 7: nothing counts 0 in the sum.
        Check.due("a cell less in the sum", cells.told(2), 25);
    }

    private static void heatOfSeveralSides() {
        BridgeCells cells = new BridgeCells(1, 1);
        cells.box(0, 0, 0, 0, 1);
        cells.side(0, 100, 1);
        cells.side(1, 90, 1);
        cells.side(2, -7, 1);
        cells.side(3, -20, 1);
        // 163 by 4 is 40.
        Check.due("flow 0", cells.flow(0), 60);
        Check.due("flow 1", cells.flow(1), 50);
        Check.due("flow 2", cells.flow(2), -47);
        Check.due("flow 3", cells.flow(3), -60);
        Check.due("heat of two sides", cells.told(0), 110);
        Check.due("rest of four sides", cells.told(1), 3);
    }

    private static void cellsThatStandAlone() {
        BridgeCells cells = new BridgeCells(4, 4);
        cells.box(0, 0, 0, 0, 3);
        cells.box(1, 1, 1, 1, 3);
        cells.box(3, 3, 3, 3, 3);
        Check.due("three alone", cells.told(3), 3);
        cells.side(3, 0, 1);
        Check.due("one has a side", cells.told(3), 2);
        cells.box(2, 1, 2, 1, 1);
        Check.due("one has a neighbour", cells.told(3), 1);
        cells.side(1, 0, 1);
        Check.due("none alone", cells.told(3), 0);
        cells.side(1, 0, 0);
        cells.box(1, 1, 1, 1, 0);
        Check.due("two alone again", cells.told(3), 2);
        BridgeCells low = new BridgeCells(3, 3);
        low.box(1, 1, 1, 1, 2);
        low.side(0, -40, 2);
        Check.due("alone though sides have film", low.told(3), 1);
        Check.due("its LOW counts", low.told(2), -40);
    }

    private static void refused() {
        Sample.refuses("flow -1", c -> c.flow(-1));
        Sample.refuses("flow 4", c -> c.flow(4));
        Sample.refuses("flow far off", c -> c.flow(Integer.MIN_VALUE));
        Sample.refuses("told -1", c -> c.told(-1));
        Sample.refuses("told 4", c -> c.told(4));
        Sample.refuses("told far off", c -> c.told(Integer.MAX_VALUE));
    }
}

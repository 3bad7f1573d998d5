/** Promises 1 (a new object), 2 (box) and 4 (leads). */
public final class GridTest {
    public static void main(String[] args) {
        sizes();
        emptyAtFirst();
        boxes();
        refusedBoxes();
        refusedLeads();
        Check.end();
    }

    private static void sizes() {
        hasSize("0, 5", new BridgeCells(0, 5), 1, 5);
        hasSize("5, 0", new BridgeCells(5, 0), 5, 1);
        hasSize("1, 10", new BridgeCells(1, 10), 1, 10);
        hasSize("11, 2", new BridgeCells(11, 2), 10, 2);
        hasSize("3, 11", new BridgeCells(3, 11), 3, 10);
        hasSize("-7, 4", new BridgeCells(-7, 4), 1, 4);
        hasSize("least, most", new BridgeCells(Integer.MIN_VALUE, Integer.MAX_VALUE), 1, 10);
        hasSize("most, least", new BridgeCells(Integer.MAX_VALUE, Integer.MIN_VALUE), 10, 1);
    }

    private static void hasSize(String made, BridgeCells cells, int columns, int rows) {
        for (int i = -2; i < 13; i++) {
            for (int j = -2; j < 13; j++) {
                int column = i;
                int row = j;
                boolean there = i >= 0 && i < columns && j >= 0 && j < rows;
                Check.due(made + ": leads " + i + " " + j,
                        Check.answer(() -> cells.leads(column, row)), there ? 0 : Check.ARGUMENT);
            }
        }
    }

    private static void emptyAtFirst() {
        BridgeCells cells = new BridgeCells(3, 2);
        for (int i = 0; i < 3; i++) {
            for (int j = 0; j < 2; j++) {
                Check.due("new: warmth " + i + " " + j, cells.warmth(i, j), BridgeCells.NOTHING);
            }
        }
        for (int what = 0; what < 4; what++) {
            Check.due("new: told " + what, cells.told(what), 0);
        }
        for (int side = 0; side < 4; side++) {
            Check.due("new: flow " + side, cells.flow(side), 0);
            Check.due("new: least " + side, cells.least(side, 0), BridgeCells.NOTHING);
            Check.due("new: its film was " + side, cells.side(side, 5, 1), 0);
        }
        Check.due("new: sum", cells.sum(), 0);
        Check.due("new: differs 0", Check.answer(() -> cells.differs(0)), Check.ARGUMENT);
        Check.due("new: joint", cells.joint(), 0);
    }

    private static void boxes() {
        BridgeCells cells = new BridgeCells(4, 3);
        Check.due("box of one", cells.box(3, 2, 3, 2, 20), 1);
        Check.due("box of six", cells.box(0, 0, 2, 1, 1), 7);
        Check.due("box over some", cells.box(1, 1, 3, 2, 9), 10);
        int[][] want = {{1, 1, 1, 0}, {1, 9, 9, 9}, {0, 9, 9, 9}};
        for (int j = 0; j < 3; j++) {
            for (int i = 0; i < 4; i++) {
                Check.due("leads " + i + " " + j, cells.leads(i, j), want[j][i]);
            }
        }
        Check.due("box of nothing", cells.box(0, 0, 3, 1, 0), 3);
        Check.due("leads after it", cells.leads(1, 1), 0);
        Check.due("leads below it", cells.leads(1, 2), 9);
        Check.due("box of all", cells.box(0, 0, 3, 2, 20), 12);
        Check.due("box of none at all", cells.box(0, 0, 3, 2, 0), 0);
    }

    private static void refusedBoxes() {
        Sample.refuses("box -1 0 0 0", c -> c.box(-1, 0, 0, 0, 1));
        Sample.refuses("box 0 -1 0 0", c -> c.box(0, -1, 0, 0, 1));
        Sample.refuses("box 0 0 3 0", c -> c.box(0, 0, 3, 0, 1));
        Sample.refuses("box 0 0 0 2", c -> c.box(0, 0, 0, 2, 1));
        Sample.refuses("box 3 0 3 0", c -> c.box(3, 0, 3, 0, 1));
        Sample.refuses("box 0 2 0 2", c -> c.box(0, 2, 0, 2, 1));
        Sample.refuses("box first column behind", c -> c.box(2, 0, 1, 1, 1));
        Sample.refuses("box first row behind", c -> c.box(0, 1, 1, 0, 1));
        Sample.refuses("box leads -1", c -> c.box(0, 0, 2, 1, -1));
        Sample.refuses("box leads 21", c -> c.box(0, 0, 2, 1, 21));
        Sample.refuses("box far off", c -> c.box(Integer.MIN_VALUE, 0, Integer.MAX_VALUE, 0, 1));
    }

    private static void refusedLeads() {
        Sample.refuses("leads -1 0", c -> c.leads(-1, 0));
        Sample.refuses("leads 0 -1", c -> c.leads(0, -1));
        Sample.refuses("leads 3 0", c -> c.leads(3, 0));
        Sample.refuses("leads 0 2", c -> c.leads(0, 2));
        Sample.refuses("leads far off", c -> c.leads(Integer.MAX_VALUE, Integer.MAX_VALUE));
    }
}

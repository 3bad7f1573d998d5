/** Promises 8 (least), 9 (factor), 10 (colder) and 11 (mirrored). */
public final class ColdestTest {
    public static void main(String[] args) {
        leastOfEachSide();
        leastOfSeveral();
        factors();
        factorsWithoutTerms();
        colderThan();
        mirrors();
        refused();
        Check.end();
    }

    /** The state is 0 2 5 / 1 2 5 (see FlowTest). */
    private static BridgeCells six() {
        BridgeCells cells = new BridgeCells(3, 2);
        cells.box(0, 0, 2, 0, 1);
        cells.box(0, 1, 2, 1, 20);
        cells.side(3, -1, 1);
        cells.side(1, 10, 20);
        return cells;
    }

    private static void leastOfEachSide() {
        BridgeCells cells = six();
        int[] warmths = {0, 5, 1, 0};
        int[] places = {0, 0, 0, 0};
        for (int side = 0; side < 4; side++) {
            Check.due("least " + side + " 0", cells.least(side, 0), warmths[side]);
            Check.due("least " + side + " 1", cells.least(side, 1), places[side]);
        }
        cells.side(3, 10, 20);
        cells.side(1, -1, 1);
        // Now the state is 5 2 0 / 5 2 1.
        Check.due("least 0 turned", cells.least(0, 0), 0);
        Check.due("its column", cells.least(0, 1), 2);
        Check.due("least 2 turned", cells.least(2, 0), 1);
        Check.due("its column too", cells.least(2, 1), 2);
        cells.box(2, 0, 2, 0, 0);
        Check.due("the row of side 1", cells.least(1, 1), 1);
    }

    private static void leastOfSeveral() {
        BridgeCells cells = new BridgeCells(4, 3);
        Check.due("none there: the warmth", cells.least(1, 0), BridgeCells.NOTHING);
        Check.due("none there: the row", cells.least(1, 1), BridgeCells.NOTHING);
        cells.box(1, 0, 2, 0, 1);
        Check.due("the first of two columns", cells.least(0, 1), 1);
        Check.due("no cell beside side 2", cells.least(2, 1), BridgeCells.NOTHING);
        cells.box(3, 1, 3, 2, 1);
        Check.due("the first of two rows", cells.least(1, 1), 1);
        Check.due("all at 0", cells.least(1, 0), 0);
        cells.side(0, -10000, 1);
        Check.due("the least there is", cells.least(0, 0), -10000);
    }

    private static void factors() {
        BridgeCells cells = new BridgeCells(1, 1);
        cells.box(0, 0, 0, 0, 1);
        cells.side(0, -30, 1);
        cells.side(2, 90, 1);
        Check.due("60 by 120: above", cells.factor(0, 0), 1);
        Check.due("60 by 120: below", cells.factor(0, 1), 2);
        Check.due("of a side without film: below", cells.factor(3, 1), 2);
        cells.side(2, 91, 1);
        Check.due("60 by 121: above", cells.factor(2, 0), 60);
        Check.due("60 by 121: below", cells.factor(2, 1), 121);
        cells.side(2, -29, 1);
        Check.due("0 by 1: above", cells.factor(2, 0), 0);
        Check.due("0 by 1: below", cells.factor(2, 1), 1);
        BridgeCells warm = new BridgeCells(3, 3);
        warm.box(1, 0, 1, 0, 1);
        warm.side(0, 10000, 20);
        warm.side(2, -10000, 20);
        Check.due("as warm as HIGH: above", warm.factor(0, 0), 1);
        Check.due("as warm as HIGH: below", warm.factor(0, 1), 1);
        warm.box(1, 0, 1, 0, 0);
        warm.box(1, 1, 1, 1, 1);
        warm.box(1, 2, 1, 2, 1);
        Check.due("as cold as LOW: above", warm.factor(2, 0), 0);
        Check.due("as cold as LOW: below", warm.factor(2, 1), 1);
    }

    private static void factorsWithoutTerms() {
        BridgeCells cells = new BridgeCells(2, 2);
        Check.due("nothing there: above", cells.factor(0, 0), 0);
        Check.due("nothing there: below", cells.factor(0, 1), 1);
        cells.side(0, 50, 1);
        cells.side(2, 20, 1);
        Check.due("no cell: above", cells.factor(0, 0), 0);
        Check.due("no cell: below", cells.factor(0, 1), 1);
        cells.box(0, 0, 1, 1, 1);
        cells.side(2, 50, 1);
        Check.due("HIGH is LOW: above", cells.factor(0, 0), 0);
        Check.due("HIGH is LOW: below", cells.factor(0, 1), 1);
    }

    private static void colderThan() {
        BridgeCells cells = six();
        int[] counts = {0, 0, 1, 2, 4, 4, 4, 6};
        for (int warmth = -1; warmth < 7; warmth++) {
            Check.due("colder " + warmth, cells.colder(warmth), counts[warmth + 1]);
        }
        Check.due("colder at the least", cells.colder(-10000), 0);
        Check.due("colder at the greatest", cells.colder(10000), 6);
        BridgeCells empty = new BridgeCells(2, 2);
        Check.due("nothing is not cold", empty.colder(10000), 0);
    }

    private static void mirrors() {
        BridgeCells cells = new BridgeCells(3, 2);
        Check.due("nothing, rows", cells.mirrored(0), true);
        Check.due("nothing, columns", cells.mirrored(1), true);
        cells.box(0, 0, 0, 0, 1);
        Check.due("one corner, rows", cells.mirrored(0), false);
        Check.due("one corner, columns", cells.mirrored(1), false);
        cells.box(2, 0, 2, 0, 9);
        Check.due("two corners, other leads, rows", cells.mirrored(0), true);
        Check.due("two corners, columns", cells.mirrored(1), false);
        cells.box(0, 1, 0, 1, 1);
        cells.box(2, 0, 2, 1, 0);
        Check.due("one column, rows", cells.mirrored(0), false);
        Check.due("one column, columns", cells.mirrored(1), true);
        cells.box(0, 0, 2, 1, 3);
        cells.side(1, 1000, 5);
        cells.side(3, 0, 5);
        Check.due("warm from one side, rows", cells.mirrored(0), false);
        Check.due("warm from one side, columns", cells.mirrored(1), true);
        cells.side(1, 0, 0);
        cells.side(3, 0, 0);
        cells.side(0, 1000, 5);
        cells.side(2, 0, 5);
        Check.due("warm from above, rows", cells.mirrored(0), true);
        Check.due("warm from above, columns", cells.mirrored(1), false);
    }

    private static void refused() {
        Sample.refuses("least -1 0", c -> c.least(-1, 0));
        Sample.refuses("least 4 0", c -> c.least(4, 0));
        Sample.refuses("least 0 -1", c -> c.least(0, -1));
        Sample.refuses("least 0 2", c -> c.least(0, 2));
        Sample.refuses("factor -1 0", c -> c.factor(-1, 0));
        Sample.refuses("factor 4 0", c -> c.factor(4, 0));
        Sample.refuses("factor 0 -1", c -> c.factor(0, -1));
        Sample.refuses("factor 0 2", c -> c.factor(0, 2));
        Sample.refuses("colder -10001", c -> c.colder(-10001));
        Sample.refuses("colder 10001", c -> c.colder(10001));
        Sample.refuses("mirrored -1", c -> c.mirrored(-1) ? 1 : 0);
        Sample.refuses("mirrored 2", c -> c.mirrored(2) ? 1 : 0);
    }
}

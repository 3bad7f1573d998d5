/** Promises 3 (side) and 5 (warmth): THE STATE, worked out by hand. */
public final class StateTest {
    public static void main(String[] args) {
        filmsThatWere();
        refusedSides();
        refusedWarmths();
        besideWhichSide();
        roundedDown();
        leastOfSeveral();
        lowForTheUnjoined();
        lowOfSidesWithFilm();
        changesAreSeen();
        edgesOfTheBounds();
        slowToSettle();
        Check.end();
    }

    private static void filmsThatWere() {
        BridgeCells cells = new BridgeCells(2, 2);
        Check.due("side 2 first", cells.side(2, -10000, 20), 0);
        Check.due("side 2 again", cells.side(2, 10000, 7), 20);
        Check.due("side 2 with none", cells.side(2, 0, 0), 7);
        Check.due("side 2 after none", cells.side(2, 0, 1), 0);
        Check.due("side 3 has its own", cells.side(3, 0, 2), 0);
    }

    private static void refusedSides() {
        Sample.refuses("side -1", c -> c.side(-1, 0, 1));
        Sample.refuses("side 4", c -> c.side(4, 0, 1));
        Sample.refuses("warmth -10001", c -> c.side(0, -10001, 1));
        Sample.refuses("warmth 10001", c -> c.side(0, 10001, 1));
        Sample.refuses("film -1", c -> c.side(3, 0, -1));
        Sample.refuses("film 21", c -> c.side(3, 0, 21));
        Sample.refuses("all far off",
                c -> c.side(Integer.MIN_VALUE, Integer.MAX_VALUE, Integer.MIN_VALUE));
    }

    private static void refusedWarmths() {
        Sample.refuses("warmth -1 0", c -> c.warmth(-1, 0));
        Sample.refuses("warmth 0 -1", c -> c.warmth(0, -1));
        Sample.refuses("warmth 3 0", c -> c.warmth(3, 0));
        Sample.refuses("warmth 0 2", c -> c.warmth(0, 2));
        Sample.refuses("warmth far off", c -> c.warmth(Integer.MIN_VALUE, Integer.MAX_VALUE));
    }

    /** One cell in the middle of each edge of a 3 x 3 grid: each has one side. */
    private static void besideWhichSide() {
        BridgeCells cells = new BridgeCells(3, 3);
        int[][] middles = {{1, 0}, {2, 1}, {1, 2}, {0, 1}};
        for (int side = 0; side < 4; side++) {
            cells.box(middles[side][0], middles[side][1], middles[side][0], middles[side][1], 4);
            cells.side(side, 10 * side + 1, 3);
        }
        for (int side = 0; side < 4; side++) {
            Check.due("the cell of side " + side,
                    cells.warmth(middles[side][0], middles[side][1]), 10 * side + 1);
        }
        Check.due("the empty middle", cells.warmth(1, 1), BridgeCells.NOTHING);
        cells.box(1, 1, 1, 1, 4);
        // G is 3 with a side and 4 with the middle; 13, 14 and 15 in the middle keep the rule.
        int[] round = {7, 12, 16, 20};
        Check.due("the middle of four", cells.warmth(1, 1), 13);
        for (int side = 0; side < 4; side++) {
            Check.due("round the middle " + side,
                    cells.warmth(middles[side][0], middles[side][1]), round[side]);
        }

        BridgeCells corner = new BridgeCells(3, 3);
        corner.box(2, 0, 2, 0, 1);
        corner.side(0, 100, 1);
        corner.side(1, 0, 1);
        corner.side(2, -900, 1);
        corner.side(3, 900, 1);
        Check.due("the corner of sides 0 and 1", corner.warmth(2, 0), 50);
    }

    private static void roundedDown() {
        BridgeCells cells = new BridgeCells(1, 1);
        cells.box(0, 0, 0, 0, 1);
        cells.side(0, -3, 1);
        cells.side(2, 0, 1);
        Check.due("-3 by 2", cells.warmth(0, 0), -2);
        cells.side(0, 3, 1);
        Check.due("3 by 2", cells.warmth(0, 0), 1);
        cells.box(0, 0, 0, 0, 7);
        cells.side(0, 100, 3);
        cells.side(2, -51, 4);
        // G: 42 / 10 is 4, 56 / 11 is 5; 400 - 255 by 9.
        Check.due("G is rounded down too", cells.warmth(0, 0), 16);
        cells.side(1, 1000, 20);
        // G: 280 / 27 is 10; 10145 by 19.
        Check.due("three sides of one cell", cells.warmth(0, 0), 533);
    }

    /** c = (10 + c) / 2 holds for 9 and for 10, with LOW 0 of a side that no cell is joined to. */
    private static void leastOfSeveral() {
        BridgeCells cells = new BridgeCells(1, 3);
        cells.box(0, 0, 0, 1, 1);
        cells.side(0, 10, 1);
        cells.side(2, 0, 1);
        Check.due("the first of a chain", cells.warmth(0, 0), 9);
        Check.due("the second of a chain", cells.warmth(0, 1), 9);
        Check.due("the empty third", cells.warmth(0, 2), BridgeCells.NOTHING);
        cells.side(2, 10, 1);
        Check.due("not below LOW", cells.warmth(0, 0), 10);
        cells.side(2, 10, 0);
        cells.side(0, 10, 20);
        cells.box(0, 0, 0, 2, 20);
        Check.due("all as warm as the one side", cells.warmth(0, 2), 10);
    }

    private static void lowForTheUnjoined() {
        BridgeCells cells = new BridgeCells(4, 4);
        cells.box(1, 1, 1, 1, 5);
        Check.due("no film at all", cells.warmth(1, 1), 0);
        cells.side(0, 300, 5);
        cells.side(1, -20, 5);
        Check.due("a cell that stands alone", cells.warmth(1, 1), -20);
        cells.box(2, 1, 2, 1, 5);
        Check.due("two that have one another alone", cells.warmth(1, 1), -20);
        Check.due("the other of the two", cells.warmth(2, 1), -20);
        cells.box(0, 0, 0, 0, 5);
        Check.due("a corner's neighbour over the corner is none", cells.warmth(1, 1), -20);
        Check.due("the cell that has a side", cells.warmth(0, 0), 300);
    }

    private static void lowOfSidesWithFilm() {
        BridgeCells cells = new BridgeCells(3, 3);
        cells.box(1, 1, 1, 1, 1);
        cells.side(0, -500, 0);
        Check.due("a side without film is no LOW", cells.warmth(1, 1), 0);
        cells.side(2, 40, 1);
        Check.due("LOW above 0", cells.warmth(1, 1), 40);
        cells.side(0, -500, 1);
        Check.due("LOW with film", cells.warmth(1, 1), -500);
        cells.side(0, 900, 0);
        Check.due("LOW without it", cells.warmth(1, 1), 40);
    }

    private static void changesAreSeen() {
        BridgeCells cells = new BridgeCells(2, 1);
        cells.box(0, 0, 1, 0, 1);
        cells.side(3, 0, 1);
        cells.side(1, 300, 1);
        Check.due("left", cells.warmth(0, 0), 99);
        Check.due("right", cells.warmth(1, 0), 199);
        cells.side(1, 3, 1);
        Check.due("left after a colder side", cells.warmth(0, 0), 0);
        Check.due("right after a colder side", cells.warmth(1, 0), 1);
        cells.box(0, 0, 0, 0, 0);
        Check.due("right alone", cells.warmth(1, 0), 3);
        Check.due("left is gone", cells.warmth(0, 0), BridgeCells.NOTHING);
        cells.box(0, 0, 0, 0, 1);
        Check.due("left again", cells.warmth(0, 0), 0);
    }

    private static void edgesOfTheBounds() {
        BridgeCells cells = new BridgeCells(10, 10);
        cells.box(0, 0, 9, 9, 20);
        cells.side(0, 10000, 20);
        Check.due("all at the greatest", cells.told(2), 1000000);
        cells.side(0, -10000, 20);
        Check.due("all at the least", cells.told(2), -1000000);
        cells.side(2, 10000, 20);
        Check.due("none below the least", cells.colder(-10000), 0);
        Check.due("none at the greatest", cells.colder(10000), 100);
        sameAsModel("far apart", cells, 20, 20, 20, -10000, 10000);
    }

    /** A great block that leads well, joined to both sides by single cells that lead badly. */
    private static void slowToSettle() {
        BridgeCells cells = new BridgeCells(10, 10);
        cells.box(0, 0, 9, 9, 20);
        cells.box(0, 0, 9, 0, 1);
        cells.box(0, 9, 9, 9, 1);
        cells.side(0, 10000, 1);
        cells.side(2, -10000, 20);
        sameAsModel("slow", cells, 1, 1, 20, 10000, -10000);
    }

    private static void sameAsModel(
            String name, BridgeCells cells, int edge, int film0, int film2, int warmth0, int warmth2) {
        Model model = new Model(10, 10);
        model.box(0, 0, 9, 9, 20);
        model.box(0, 0, 9, 0, edge);
        model.box(0, 9, 9, 9, edge);
        model.side(0, warmth0, film0);
        model.side(2, warmth2, film2);
        for (int i = 0; i < 10; i++) {
            for (int j = 0; j < 10; j++) {
                Check.due(name + ": warmth " + i + " " + j, cells.warmth(i, j), model.warmth(i, j));
            }
        }
    }
}

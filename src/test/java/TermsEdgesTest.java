/** Each sentence of "What it is" and "Terms" that names a boundary case, with its own test. */
public final class TermsEdgesTest {
    private static final int NOTHING = -1000000;

    public static void main(String[] args) {
        Check.sentence("What it is", "An object is used for at most 512 calls after it has been made",
                TermsEdgesTest::theLastCallIsAnswered);
        Check.sentence("Terms", "THE GRID has X columns (i = 0 .. X - 1)",
                TermsEdgesTest::columnsOfTheGrid);
        Check.sentence("Terms", "and Y rows (j = 0 .. Y - 1)", TermsEdgesTest::rowsOfTheGrid);
        Check.sentence("Terms", "LEADS (0 .. 20", TermsEdgesTest::boundsOfLeads);
        Check.sentence("Terms", "0: nothing is there", TermsEdgesTest::nothingIsThere);
        Check.sentence("Terms", "0: nothing is there; at first", TermsEdgesTest::leadsAtFirst);
        Check.sentence("Terms", "SIDES are 0 .. 3", TermsEdgesTest::boundsOfSides);
        Check.sentence("Terms", "side 0 is beside the cells of row 0, 1 beside those of column X - 1,"
                + " 2 beside row Y - 1, 3 beside column 0", TermsEdgesTest::besideWhichSide);
        Check.sentence("Terms", "each has a WARMTH (-10000 .. 10000", TermsEdgesTest::boundsOfWarmth);
        Check.sentence("Terms", "a FILM (0 .. 20", TermsEdgesTest::boundsOfFilm);
        Check.sentence("Terms", "a FILM (0 .. 20; 0 at first)", TermsEdgesTest::filmAtFirst);
        joinedCells();
        lowAndHigh();
        theState();
        flowsAndJoints();
        exceptions();
        Check.end();
    }

    private static void joinedCells() {
        Check.sentence("Terms", "two cells that lie beside one another (with one edge)",
                TermsEdgesTest::withOneEdge);
        Check.sentence("Terms", "with LEADS a and b, both above 0", TermsEdgesTest::bothAboveNothing);
        Check.sentence("Terms", "is 2 a b / (a + b), rounded down", TermsEdgesTest::joinedByCells);
        Check.sentence("Terms", "is 2 a f / (a + f), rounded down", TermsEdgesTest::joinedByFilm);
        Check.sentence("Terms", "all others are 0", TermsEdgesTest::notJoined);
    }

    private static void lowAndHigh() {
        Check.sentence("Terms", "LOW is the least warmth of all sides with a FILM above 0",
                TermsEdgesTest::lowOfEachSide);
        Check.sentence("Terms", "HIGH the greatest", TermsEdgesTest::highOfEachSide);
        Check.sentence("Terms", "both are 0 if there are none", TermsEdgesTest::lowAndHighOfNone);
    }

    private static void theState() {
        Check.sentence("Terms", "a whole number, its WARMTH, not below LOW",
                TermsEdgesTest::notBelowLow);
        Check.sentence("Terms", "rounded down (to the next whole number that is not greater)",
                TermsEdgesTest::notGreater);
        Check.sentence("Terms", "LOW if that sum is 0", TermsEdgesTest::lowIfTheSumIsNothing);
        Check.sentence("Terms", "each cell's warmth is the least that it has in any",
                TermsEdgesTest::leastOfSeveral);
    }

    private static void flowsAndJoints() {
        Check.sentence("Terms", "HEAT is the sum of those FLOWS that are above 0",
                TermsEdgesTest::flowsAboveNothing);
        Check.sentence("Terms", "REST the sum of all", TermsEdgesTest::sumOfAllFlows);
        Check.sentence("Terms", "has a LENGTH (0 .. 1000", TermsEdgesTest::boundsOfLength);
        Check.sentence("Terms", "has a LENGTH (0 .. 1000; 0 at first)", TermsEdgesTest::lengthAtFirst);
        Check.sentence("Terms", "at most 10 are kept", TermsEdgesTest::tenAreKept);
    }

    private static void exceptions() {
        Check.sentence("Terms", "IllegalArgumentException: a number is out of its bounds",
                TermsEdgesTest::numbersOutOfBounds);
        Check.sentence("Terms", "there is no such cell, side, joint", TermsEdgesTest::noSuchThing);
        Check.sentence("Terms", "Of several exceptions the one named first is thrown",
                TermsEdgesTest::severalAtOnce);
        Check.sentence("Terms", "a call that throws changes nothing",
                TermsEdgesTest::manyRefusalsChangeNothing);
        Check.sentence("Terms", "NOTHING = -1000000",
                () -> Check.due("NOTHING", BridgeCells.NOTHING, NOTHING));
    }

    /** 512 calls with every kind of them, beside the plain model. */
    private static void theLastCallIsAnswered() {
        BridgeCells cells = new BridgeCells(5, 4);
        Model model = new Model(5, 4);
        for (int call = 1; call <= 512; call++) {
            String at = "call " + call;
            int turn = call / 16;
            int i = turn % 5;
            int j = turn % 4;
            int side = turn % 4;
            int part = turn % 2;
            int leads = call * 7 % 21;
            int warmth = call * 631 % 20001 - 10000;
            int joint = turn % 10;
            switch (call % 16) {
                case 0:
                    Check.due(at, cells.told(turn % 4), model.told(turn % 4));
                    break;
                case 1:
                    Check.due(at, cells.box(i, j, 4, 3, leads), model.box(i, j, 4, 3, leads));
                    break;
                case 2:
                    Check.due(at, cells.side(side, warmth, leads), model.side(side, warmth, leads));
                    break;
                case 3:
                    Check.due(at, cells.leads(i, j), model.leads(i, j));
                    break;
                case 4:
                    Check.due(at, cells.warmth(i, j), model.warmth(i, j));
                    break;
                case 5:
                    Check.due(at, cells.flow(side), model.flow(side));
                    break;
                case 6:
                    Check.due(at, cells.least(side, part), model.least(side, part));
                    break;
                case 7:
                    Check.due(at, cells.factor(side, part), model.factor(side, part));
                    break;
                case 8:
                    Check.due(at, cells.colder(warmth), model.colder(warmth));
                    break;
                case 9:
                    Check.due(at, cells.mirrored(part) ? 1 : 0, model.mirrored(part));
                    break;
                case 10:
                    Check.due(at, Check.answer(() -> cells.joint()), model.joint());
                    break;
                case 11:
                    Check.due(at, Check.answer(() -> cells.length(joint, leads)),
                            model.length(joint, leads));
                    break;
                case 12:
                    Check.due(at, Check.answer(() -> cells.differs(joint)), model.differs(joint));
                    break;
                case 13:
                    Check.due(at, cells.sum(), model.sum());
                    break;
                case 14:
                    Check.due(at, Check.answer(() -> cells.leads(5, j)), Check.ARGUMENT);
                    break;
                default:
                    Check.due(at, cells.box(i, j, i, j, 20 - j), model.box(i, j, i, j, 20 - j));
                    break;
            }
        }
    }

    private static void columnsOfTheGrid() {
        BridgeCells cells = Sample.make();
        Check.due("the first column's leads", cells.leads(0, 1), 5);
        Check.due("the last column's leads", cells.leads(2, 1), 20);
        Check.due("a box of the last column", cells.box(2, 0, 2, 1, 0), 3);
        for (int i : Sample.outside(0, 2)) {
            Sample.refuses("leads in column " + i, c -> c.leads(i, 0));
            Sample.refuses("warmth in column " + i, c -> c.warmth(i, 1));
            Sample.refuses("box from column " + i, c -> c.box(i, 0, 2, 1, 1));
            Sample.refuses("box to column " + i, c -> c.box(0, 0, i, 1, 1));
        }
    }

    private static void rowsOfTheGrid() {
        BridgeCells cells = Sample.make();
        Check.due("the first row's leads", cells.leads(2, 0), 5);
        Check.due("the last row's leads", cells.leads(2, 1), 20);
        Check.due("a box of the last row", cells.box(0, 1, 2, 1, 0), 2);
        for (int j : Sample.outside(0, 1)) {
            Sample.refuses("leads in row " + j, c -> c.leads(0, j));
            Sample.refuses("warmth in row " + j, c -> c.warmth(2, j));
            Sample.refuses("box from row " + j, c -> c.box(0, j, 2, 1, 1));
            Sample.refuses("box to row " + j, c -> c.box(0, 0, 2, j, 1));
        }
    }

    private static void boundsOfLeads() {
        BridgeCells cells = new BridgeCells(2, 1);
        for (int leads = 0; leads <= 20; leads++) {
            cells.box(1, 0, 1, 0, leads);
            Check.due("leads " + leads, cells.leads(1, 0), leads);
        }
        for (int leads : Sample.outside(0, 20)) {
            Sample.refuses("box with leads " + leads, c -> c.box(0, 0, 2, 1, leads));
        }
    }

    /** A cell that is emptied again is as one that never was. */
    private static void nothingIsThere() {
        BridgeCells cells = new BridgeCells(3, 1);
        cells.side(1, 50, 5);
        cells.side(3, 10, 5);
        cells.box(0, 0, 2, 0, 1);
        Check.due("a cell between", cells.warmth(1, 0) > 10, true);
        Check.due("emptied", cells.box(1, 0, 1, 0, 0), 2);
        Check.due("its warmth", cells.warmth(1, 0), NOTHING);
        Check.due("left of it", cells.warmth(0, 0), 10);
        Check.due("right of it", cells.warmth(2, 0), 50);
        Check.due("no flow through it", cells.told(0), 0);
    }

    private static void leadsAtFirst() {
        BridgeCells cells = new BridgeCells(10, 10);
        for (int i = 0; i < 10; i++) {
            for (int j = 0; j < 10; j++) {
                Check.due("leads " + i + " " + j, cells.leads(i, j), 0);
            }
        }
    }

    private static void boundsOfSides() {
        BridgeCells cells = Sample.make();
        int[] films = {3, 4, 20, 1};
        for (int side = 0; side < 4; side++) {
            Check.due("flow is told of side " + side, cells.flow(side) != 0, true);
            Check.due("least is told of side " + side, cells.least(side, 0) != NOTHING, true);
            Check.due("factor is told of side " + side, cells.factor(side, 0) > 0, true);
        }
        for (int side = 0; side < 4; side++) {
            Check.due("the film of side " + side, cells.side(side, 0, 0), films[side]);
        }
        for (int side : Sample.outside(0, 3)) {
            Sample.refuses("side " + side, c -> c.side(side, 1, 1));
            Sample.refuses("flow " + side, c -> c.flow(side));
            Sample.refuses("least " + side, c -> c.least(side, 0));
            Sample.refuses("factor " + side, c -> c.factor(side, 0));
        }
    }

    /** One cell on the grid and one side with film: it stands alone unless it is beside it. */
    private static void besideWhichSide() {
        int[][] sizes = {{4, 3}, {3, 4}, {1, 1}, {1, 3}, {3, 1}, {2, 2}};
        for (int[] size : sizes) {
            for (int i = 0; i < size[0]; i++) {
                for (int j = 0; j < size[1]; j++) {
                    boolean[] beside = {j == 0, i == size[0] - 1, j == size[1] - 1, i == 0};
                    oneCellAndOneSide(size[0], size[1], i, j, beside);
                }
            }
        }
        BridgeCells one = new BridgeCells(1, 1);
        one.box(0, 0, 0, 0, 1);
        for (int side = 0; side < 4; side++) {
            one.side(side, side * side, 1);
        }
        Check.due("one cell beside all four: 0, 1, 4 and 9 by 4", one.warmth(0, 0), 3);
    }

    private static void oneCellAndOneSide(int x, int y, int i, int j, boolean[] beside) {
        for (int side = 0; side < 4; side++) {
            BridgeCells cells = new BridgeCells(x, y);
            cells.box(i, j, i, j, 1);
            cells.side(side, 5, 1);
            Check.due("on " + x + " x " + y + " cell " + i + " " + j + " alone with side " + side,
                    cells.told(3), beside[side] ? 0 : 1);
        }
    }

    private static void boundsOfWarmth() {
        int[] within = {-10000, -9999, -1, 0, 1, 9999, 10000};
        for (int warmth : within) {
            BridgeCells cells = new BridgeCells(1, 1);
            cells.box(0, 0, 0, 0, 1);
            cells.side(1, warmth, 1);
            Check.due("a cell at " + warmth, cells.warmth(0, 0), warmth);
        }
        for (int warmth : Sample.outside(-10000, 10000)) {
            Sample.refuses("side with warmth " + warmth, c -> c.side(0, warmth, 1));
            Sample.refuses("colder than " + warmth, c -> c.colder(warmth));
        }
    }

    private static void boundsOfFilm() {
        BridgeCells cells = new BridgeCells(1, 1);
        int before = 0;
        for (int film = 20; film >= 0; film--) {
            Check.due("film " + film + " is taken", cells.side(2, 5, film), before);
            before = film;
        }
        Check.due("film 0 was taken", cells.side(2, 5, 1), 0);
        for (int film : Sample.outside(0, 20)) {
            Sample.refuses("side with film " + film, c -> c.side(1, 5, film));
        }
    }

    /** A side's first WARMTH shows nowhere: it counts nothing until a call gives film and another. */
    private static void filmAtFirst() {
        BridgeCells cells = new BridgeCells(2, 2);
        cells.box(0, 0, 0, 0, 5);
        Check.due("no side is joined", cells.told(3), 1);
        for (int side = 0; side < 4; side++) {
            Check.due("the film of side " + side, cells.side(side, 0, 20), 0);
        }
    }

    /** Two cells on the grid: not over a corner, not from a row's end to a row's beginning. */
    private static void withOneEdge() {
        int[][] sizes = {{3, 3}, {4, 2}, {2, 4}, {5, 1}, {1, 5}, {2, 2}, {10, 2}};
        for (int[] size : sizes) {
            int places = size[0] * size[1];
            for (int one = 0; one < places; one++) {
                for (int two = one + 1; two < places; two++) {
                    twoCells(size, one % size[0], one / size[0], two % size[0], two / size[0]);
                }
            }
        }
    }

    private static void twoCells(int[] size, int i, int j, int k, int l) {
        BridgeCells cells = new BridgeCells(size[0], size[1]);
        cells.box(i, j, i, j, 1);
        cells.box(k, l, k, l, 20);
        boolean oneEdge = Math.abs(i - k) + Math.abs(j - l) == 1;
        Check.due("on " + size[0] + " x " + size[1] + " alone of " + i + " " + j + " and " + k + " " + l,
                cells.told(3), oneEdge ? 0 : 2);
    }

    private static void bothAboveNothing() {
        BridgeCells cells = new BridgeCells(3, 3);
        cells.box(1, 1, 1, 1, 20);
        Check.due("among empty cells", cells.told(3), 1);
        int[][] round = {{1, 0}, {2, 1}, {1, 2}, {0, 1}};
        for (int[] at : round) {
            cells.box(at[0], at[1], at[0], at[1], 1);
            Check.due("with " + at[0] + " " + at[1], cells.told(3), 0);
            cells.box(at[0], at[1], at[0], at[1], 0);
            Check.due("without " + at[0] + " " + at[1], cells.told(3), 1);
        }
    }

    /** Two cells between two sides far apart: a G that is 1 off would break the rule at a cell. */
    private static void joinedByCells() {
        for (int a = 1; a <= 20; a++) {
            for (int b = 1; b <= 20; b++) {
                BridgeCells cells = new BridgeCells(2, 1);
                cells.box(0, 0, 0, 0, a);
                cells.box(1, 0, 1, 0, b);
                cells.side(3, 10000, 20);
                cells.side(1, -10000, 20);
                long g = 2 * a * b / (a + b);
                long left = 40 * a / (a + 20);
                long right = 40 * b / (b + 20);
                long one = cells.warmth(0, 0);
                long two = cells.warmth(1, 0);
                Check.due("the left one of " + a + " and " + b,
                        one, Math.floorDiv(left * 10000 + g * two, left + g));
                Check.due("the right one of " + a + " and " + b,
                        two, Math.floorDiv(g * one - right * 10000, g + right));
            }
        }
        int[][] gs = {{1, 1, 1}, {1, 20, 1}, {20, 20, 20}, {19, 20, 19}, {2, 3, 2}, {20, 2, 3}};
        for (int[] of : gs) {
            threeInARow(of[0], of[1], of[2]);
        }
    }

    /** Three cells in a row with b, a and a: the middle one has G with b and, as great as a, with a. */
    private static void threeInARow(int a, int b, int g) {
        BridgeCells cells = new BridgeCells(3, 2);
        cells.box(0, 0, 0, 0, b);
        cells.box(1, 0, 2, 0, a);
        cells.side(3, 0, 20);
        cells.side(1, 9000, 20);
        long first = cells.warmth(0, 0);
        long third = cells.warmth(2, 0);
        Check.due("G of " + a + " and " + b + " by the one between",
                cells.warmth(1, 0), Math.floorDiv(g * first + a * third, g + a));
    }

    /** One cell between two sides alike is at 0, and what flows is G times 10000. */
    private static void joinedByFilm() {
        for (int a = 1; a <= 20; a++) {
            for (int f = 1; f <= 20; f++) {
                BridgeCells cells = new BridgeCells(1, 1);
                cells.box(0, 0, 0, 0, a);
                cells.side(0, 10000, f);
                cells.side(2, -10000, f);
                long g = 2 * a * f / (a + f);
                Check.due("warmth with " + a + " and " + f, cells.warmth(0, 0), 0);
                Check.due("flow of " + a + " and " + f, cells.flow(0), g * 10000);
                Check.due("flow out of " + a + " and " + f, cells.flow(2), -g * 10000);
            }
        }
    }

    private static void notJoined() {
        BridgeCells cells = new BridgeCells(3, 3);
        cells.box(1, 1, 1, 1, 20);
        for (int side = 0; side < 4; side++) {
            cells.side(side, 1000 * (side + 1), 20);
        }
        Check.due("an inner cell has no side", cells.told(3), 1);
        for (int side = 0; side < 4; side++) {
            Check.due("no flow to an inner cell from side " + side, cells.flow(side), 0);
        }
        cells.box(1, 1, 1, 1, 0);
        cells.box(0, 0, 0, 0, 20);
        cells.side(0, 9000, 0);
        cells.side(3, 40, 1);
        Check.due("a side without film gives nothing", cells.warmth(0, 0), 40);
        Check.due("nor has it a flow", cells.flow(0), 0);
    }

    /** A cell that stands alone is at LOW; each side in turn is the coldest, the first and last too. */
    private static void lowOfEachSide() {
        for (int coldest = 0; coldest < 4; coldest++) {
            BridgeCells cells = new BridgeCells(3, 3);
            cells.box(1, 1, 1, 1, 1);
            for (int side = 0; side < 4; side++) {
                cells.side(side, side == coldest ? -10000 : 9000 + side, side + 1);
            }
            Check.due("side " + coldest + " coldest", cells.warmth(1, 1), -10000);
            cells.side(coldest, -10000, 0);
            Check.due("side " + coldest + " without film",
                    cells.warmth(1, 1), coldest == 0 ? 9001 : 9000);
            for (int side = 0; side < 4; side++) {
                cells.side(side, side == coldest ? 777 : -5000, side == coldest ? 1 : 0);
            }
            Check.due("side " + coldest + " the only one with film", cells.warmth(1, 1), 777);
        }
    }

    /** 101 is prime, so that a factor's lower part is what HIGH is above LOW. */
    private static void highOfEachSide() {
        for (int warmest = 0; warmest < 4; warmest++) {
            int opposite = (warmest + 2) % 4;
            BridgeCells cells = new BridgeCells(1, 1);
            cells.box(0, 0, 0, 0, 1);
            for (int side = 0; side < 4; side++) {
                int warmth = side == warmest ? -899 : side == opposite ? -1000 : -950;
                cells.side(side, warmth, 20);
            }
            Check.due("side " + warmest + " warmest", cells.factor(0, 1), 101);
            cells.side(opposite, -1000, 0);
            Check.due("and without the coldest", cells.factor(0, 1), 3);
            cells.side(opposite, 10000, 0);
            Check.due("a warmer one without film", cells.factor(0, 1), 3);
        }
    }

    private static void lowAndHighOfNone() {
        BridgeCells cells = new BridgeCells(2, 2);
        cells.box(0, 0, 0, 0, 1);
        Check.due("no side was set: LOW", cells.warmth(0, 0), 0);
        Check.due("no side was set: above", cells.factor(0, 0), 0);
        Check.due("no side was set: below", cells.factor(0, 1), 1);
        for (int side = 0; side < 4; side++) {
            cells.side(side, 500 + side, 7);
        }
        Check.due("with film", cells.warmth(0, 0) >= 500, true);
        for (int side = 0; side < 4; side++) {
            cells.side(side, 500 + side, 0);
        }
        Check.due("no side has film any more: LOW", cells.warmth(0, 0), 0);
        Check.due("no side has film any more: above", cells.factor(0, 0), 0);
        Check.due("no side has film any more: below", cells.factor(0, 1), 1);
        for (int side = 0; side < 4; side++) {
            cells.side(side, -500 - side, 0);
        }
        Check.due("cold sides without film: LOW", cells.warmth(0, 0), 0);
    }

    /** Cells that have only one another keep any number that all of them have. */
    private static void notBelowLow() {
        int[] lows = {-10000, -7, 0, 7, 10000};
        for (int low : lows) {
            BridgeCells pair = new BridgeCells(4, 3);
            pair.box(1, 1, 2, 1, 20);
            pair.side(0, low, 1);
            Check.due("left of two with one another alone", pair.warmth(1, 1), low);
            Check.due("right of two with one another alone", pair.warmth(2, 1), low);

            BridgeCells chain = new BridgeCells(1, 3);
            chain.box(0, 0, 0, 2, 1);
            chain.side(0, low, 1);
            Check.due("the end of a chain from LOW", chain.warmth(0, 2), low);
        }
    }

    private static void notGreater() {
        int[][] halves = {{-3, 0, -2}, {-1, 0, -1}, {1, 0, 0}, {3, 0, 1}, {-4, 0, -2}, {4, 0, 2},
            {-10000, -9999, -10000}, {10000, 9999, 9999}, {-10000, 9999, -1}, {-9999, 10000, 0}};
        for (int[] half : halves) {
            BridgeCells cells = new BridgeCells(1, 1);
            cells.box(0, 0, 0, 0, 1);
            cells.side(1, half[0], 1);
            cells.side(3, half[1], 1);
            Check.due(half[0] + " and " + half[1] + " by 2", cells.warmth(0, 0), half[2]);
        }
    }

    private static void lowIfTheSumIsNothing() {
        BridgeCells cells = new BridgeCells(5, 5);
        cells.box(1, 1, 1, 1, 1);
        cells.box(2, 2, 2, 2, 20);
        cells.box(4, 4, 4, 4, 20);
        cells.side(0, 30, 20);
        cells.side(1, 60, 20);
        Check.due("alone", cells.warmth(1, 1), 30);
        Check.due("alone over a corner", cells.warmth(2, 2), 30);
        Check.due("beside a side that is not LOW", cells.warmth(4, 4), 60);
        cells.side(0, -30, 20);
        Check.due("alone with another LOW", cells.warmth(1, 1), -30);
        cells.side(0, -30, 0);
        Check.due("alone when LOW is HIGH", cells.warmth(1, 1), 60);
    }

    /** A chain of cells that ends in nothing may be as warm as its side, or less. */
    private static void leastOfSeveral() {
        BridgeCells two = new BridgeCells(1, 3);
        two.box(0, 0, 0, 1, 1);
        two.side(0, 10, 1);
        two.side(2, 0, 1);
        // c = (10 + c) / 2, rounded down, holds for 9 and 10.
        Check.due("the first of two", two.warmth(0, 0), 9);
        Check.due("the second of two", two.warmth(0, 1), 9);
        two.side(2, 10, 1);
        Check.due("9 is below LOW now", two.warmth(0, 0), 10);

        BridgeCells three = new BridgeCells(4, 1);
        three.box(0, 0, 2, 0, 1);
        three.side(3, 10, 1);
        three.side(1, -10000, 1);
        // 10 10 10, 9 9 9, 9 8 8 and 8 7 7 hold; with 7 the next would be 4 or 5, too far below it.
        Check.due("the first of three", three.warmth(0, 0), 8);
        Check.due("the second of three", three.warmth(1, 0), 7);
        Check.due("the third of three", three.warmth(2, 0), 7);
    }

    /** Two cells between warm and cold, and a side at 0 along both: 24 and -26. */
    private static BridgeCells alongBoth() {
        BridgeCells cells = new BridgeCells(2, 1);
        cells.box(0, 0, 1, 0, 1);
        cells.side(3, 100, 1);
        cells.side(1, -100, 1);
        cells.side(0, 0, 1);
        return cells;
    }

    private static void flowsAboveNothing() {
        BridgeCells cells = alongBoth();
        Check.due("the warm cell", cells.warmth(0, 0), 24);
        Check.due("the cold cell", cells.warmth(1, 0), -26);
        Check.due("a side gives to one and takes from the other", cells.flow(0), 2);
        Check.due("76 of side 3 and 2 of side 0", cells.told(0), 78);
        cells.side(0, -2, 1);
        // Now 23 and -27: the side takes 25 and gives 25, so that its flow is 0.
        Check.due("a flow of 0", cells.flow(0), 0);
        Check.due("counts nothing", cells.told(0), 77);
        BridgeCells even = new BridgeCells(2, 2);
        Check.due("no cell", even.told(0), 0);
        even.box(0, 0, 1, 1, 20);
        Check.due("no side", even.told(0), 0);
        even.side(0, 10000, 20);
        even.side(2, 10000, 20);
        Check.due("all as warm as the sides", even.told(0), 0);
    }

    private static void sumOfAllFlows() {
        BridgeCells cells = alongBoth();
        Check.due("76, 2, -74 and 0", cells.told(1), 4);
        BridgeCells even = new BridgeCells(2, 2);
        Check.due("no cell", even.told(1), 0);
        even.box(0, 0, 1, 1, 20);
        Check.due("no side", even.told(1), 0);
        even.side(1, -10000, 20);
        Check.due("all as warm as the side", even.told(1), 0);
        BridgeCells one = new BridgeCells(1, 1);
        one.box(0, 0, 0, 0, 1);
        one.side(0, 8, 1);
        one.side(2, -8, 1);
        Check.due("8 and -8", one.told(1), 0);
        one.side(2, -9, 1);
        Check.due("9 and -8 from -1", one.told(1), 1);
    }

    private static void boundsOfLength() {
        BridgeCells cells = Sample.make();
        Check.due("1000 is taken", cells.length(1, 1000), 3);
        Check.due("0 is taken", cells.length(1, 0), 1000);
        Check.due("0 was", cells.length(1, 1), 0);
        for (int metres : Sample.outside(0, 1000)) {
            Sample.refuses("length of " + metres, c -> c.length(1, metres));
        }
    }

    private static void lengthAtFirst() {
        BridgeCells cells = Sample.make();
        long before = cells.sum();
        for (int joint = Sample.JOINTS; joint < 10; joint++) {
            cells.joint();
            Check.due("the sum with joint " + joint, cells.sum(), before);
        }
        for (int joint = Sample.JOINTS; joint < 10; joint++) {
            Check.due("the length of joint " + joint, cells.length(joint, 1000), 0);
        }
    }

    private static void tenAreKept() {
        BridgeCells cells = new BridgeCells(1, 1);
        for (int joint = 0; joint < 10; joint++) {
            Check.due("joint " + joint, cells.joint(), joint);
        }
        for (int joint = 0; joint < 10; joint++) {
            Check.due("kept: joint " + joint, cells.length(joint, joint + 1), 0);
        }
        for (int again = 0; again < 3; again++) {
            Check.due("one more", Check.answer(() -> cells.joint()), Check.STATE);
        }
        for (int joint = 0; joint < 10; joint++) {
            Check.due("still kept: joint " + joint, cells.length(joint, 0), joint + 1);
        }
    }

    private static void numbersOutOfBounds() {
        for (int number : Sample.outside(-10000, 10000)) {
            Sample.refuses("box leads " + number, c -> c.box(0, 0, 0, 0, number));
            Sample.refuses("side warmth " + number, c -> c.side(0, number, 1));
            Sample.refuses("side film " + number, c -> c.side(0, 1, number));
            Sample.refuses("told " + number, c -> c.told(number));
            Sample.refuses("least what " + number, c -> c.least(0, number));
            Sample.refuses("factor part " + number, c -> c.factor(0, number));
            Sample.refuses("colder " + number, c -> c.colder(number));
            Sample.refuses("mirrored " + number, c -> c.mirrored(number) ? 1 : 0);
            Sample.refuses("length metres " + number, c -> c.length(0, number));
        }
    }

    private static void noSuchThing() {
        Sample.refuses("no such cell: leads", c -> c.leads(3, 1));
        Sample.refuses("no such cell: warmth", c -> c.warmth(2, 2));
        Sample.refuses("no such cell: box from", c -> c.box(-1, 0, 1, 1, 3));
        Sample.refuses("no such cell: box to", c -> c.box(0, 0, 2, 2, 3));
        Sample.refuses("no such side: side", c -> c.side(4, 0, 1));
        Sample.refuses("no such side: flow", c -> c.flow(4));
        Sample.refuses("no such side: least", c -> c.least(4, 0));
        Sample.refuses("no such side: factor", c -> c.factor(4, 1));
        Sample.refuses("no such joint: length", c -> c.length(Sample.JOINTS, 1));
        Sample.refuses("no such joint: differs", c -> c.differs(Sample.JOINTS));
    }

    /** Every number of a call is wrong at once, and there are 10 joints beside. */
    private static void severalAtOnce() {
        for (int n : Sample.outside(-10000, 10000)) {
            refusesWithTen("box", n, c -> c.box(n, n, n, n, n));
            refusesWithTen("side", n, c -> c.side(n, n, n));
            refusesWithTen("leads", n, c -> c.leads(n, n));
            refusesWithTen("warmth", n, c -> c.warmth(n, n));
            refusesWithTen("least", n, c -> c.least(n, n));
            refusesWithTen("factor", n, c -> c.factor(n, n));
            refusesWithTen("length", n, c -> c.length(n, n));
            refusesWithTen("differs", n, c -> c.differs(n));
        }
        Sample.throwsAndKeeps("joint", Sample::makeWithTenJoints, Check.STATE, c -> c.joint());
    }

    private static void refusesWithTen(
            String call, int number, java.util.function.ToLongFunction<BridgeCells> run) {
        Sample.throwsAndKeeps(
                call + " all " + number, Sample::makeWithTenJoints, Check.ARGUMENT, run);
    }

    private static void manyRefusalsChangeNothing() {
        BridgeCells tried = Sample.makeWithTenJoints();
        BridgeCells spared = Sample.makeWithTenJoints();
        for (int time = 0; time < 3; time++) {
            refuseAll(tried);
        }
        Check.due("after many refusals", Seen.all(tried), Seen.all(spared));
        refuseAll(tried);
        Check.due("later, after many refusals", Seen.byChanging(tried), Seen.byChanging(spared));
    }

    private static void refuseAll(BridgeCells cells) {
        Check.due("box too far", Check.answer(() -> cells.box(0, 0, 3, 1, 9)), Check.ARGUMENT);
        Check.due("box falling", Check.answer(() -> cells.box(1, 0, 0, 1, 9)), Check.ARGUMENT);
        Check.due("box leads", Check.answer(() -> cells.box(0, 0, 2, 1, 21)), Check.ARGUMENT);
        Check.due("side", Check.answer(() -> cells.side(-1, 9, 9)), Check.ARGUMENT);
        Check.due("side warmth", Check.answer(() -> cells.side(0, 10001, 9)), Check.ARGUMENT);
        Check.due("side film", Check.answer(() -> cells.side(0, 9, 21)), Check.ARGUMENT);
        Check.due("leads", Check.answer(() -> cells.leads(0, 2)), Check.ARGUMENT);
        Check.due("warmth", Check.answer(() -> cells.warmth(3, 0)), Check.ARGUMENT);
        Check.due("flow", Check.answer(() -> cells.flow(4)), Check.ARGUMENT);
        Check.due("told", Check.answer(() -> cells.told(4)), Check.ARGUMENT);
        Check.due("least", Check.answer(() -> cells.least(0, 2)), Check.ARGUMENT);
        Check.due("factor", Check.answer(() -> cells.factor(0, 2)), Check.ARGUMENT);
        Check.due("colder", Check.answer(() -> cells.colder(10001)), Check.ARGUMENT);
        Check.due("mirrored", Check.answer(() -> cells.mirrored(2) ? 1 : 0), Check.ARGUMENT);
        Check.due("joint", Check.answer(() -> cells.joint()), Check.STATE);
        Check.due("length", Check.answer(() -> cells.length(10, 1)), Check.ARGUMENT);
        Check.due("metres", Check.answer(() -> cells.length(9, 1001)), Check.ARGUMENT);
        Check.due("differs", Check.answer(() -> cells.differs(10)), Check.ARGUMENT);
    }
}

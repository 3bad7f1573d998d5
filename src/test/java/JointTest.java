/** Promises 12 (joint), 13 (length), 14 (differs) and 15 (sum). */
public final class JointTest {
    public static void main(String[] args) {
        keepsTheHeat();
        lengths();
        tenAtMost();
        greatSums();
        refused();
        Check.end();
    }

    private static BridgeCells oneCell() {
        BridgeCells cells = new BridgeCells(1, 1);
        cells.box(0, 0, 0, 0, 1);
        cells.side(0, 100, 1);
        cells.side(2, 0, 1);
        return cells;
    }

    private static void keepsTheHeat() {
        BridgeCells cells = oneCell();
        Check.due("the first joint", cells.joint(), 0);
        Check.due("no difference", cells.differs(0), 0);
        cells.side(0, 300, 1);
        Check.due("more heat now", cells.differs(0), 100);
        Check.due("the second joint", cells.joint(), 1);
        cells.box(0, 0, 0, 0, 0);
        Check.due("less than the first", cells.differs(0), -50);
        Check.due("less than the second", cells.differs(1), -150);
        Check.due("the third joint, of no heat", cells.joint(), 2);
        Check.due("no difference to it", cells.differs(2), 0);
    }

    private static void lengths() {
        BridgeCells cells = oneCell();
        Check.due("no joints", cells.sum(), 0);
        cells.joint();
        Check.due("no length", cells.sum(), 0);
        Check.due("it was 0", cells.length(0, 1000), 0);
        Check.due("50 times 1000", cells.sum(), 50000);
        Check.due("it was 1000", cells.length(0, 7), 1000);
        cells.side(0, 300, 1);
        cells.joint();
        Check.due("the new one has no length", cells.sum(), 350);
        Check.due("the new one's was 0", cells.length(1, 2), 0);
        Check.due("both", cells.sum(), 650);
        Check.due("it was 7", cells.length(0, 0), 7);
        Check.due("the second alone", cells.sum(), 300);
    }

    private static void tenAtMost() {
        BridgeCells cells = Sample.make();
        for (int joint = 2; joint < 10; joint++) {
            Check.due("joint " + joint, cells.joint(), joint);
        }
        cells.length(9, 4);
        Check.due("an eleventh joint", Check.answer(() -> cells.joint()), Check.STATE);
        Check.due("the tenth is there", cells.length(9, 5), 4);
        Check.due("an eleventh is not", Check.answer(() -> cells.length(10, 5)), Check.ARGUMENT);
        Check.due("and none else", Check.answer(() -> cells.joint()), Check.STATE);
    }

    private static void greatSums() {
        BridgeCells cells = new BridgeCells(10, 1);
        cells.box(0, 0, 9, 0, 20);
        cells.side(0, 10000, 20);
        cells.side(2, -10000, 20);
        // All cells settle at 0 or near it; each gives some 20 * 10000.
        long heat = cells.told(0);
        Check.due("the heat is great", heat > 1900000, true);
        for (int joint = 0; joint < 10; joint++) {
            cells.joint();
            cells.length(joint, 1000);
        }
        Check.due("a sum above what an int holds", cells.sum(), heat * 10000);
    }

    private static void refused() {
        Sample.refuses("length -1", c -> c.length(-1, 1));
        Sample.refuses("length of none", c -> c.length(2, 1));
        Sample.refuses("length far off", c -> c.length(Integer.MAX_VALUE, 1));
        Sample.refuses("metres -1", c -> c.length(0, -1));
        Sample.refuses("metres 1001", c -> c.length(0, 1001));
        Sample.refuses("differs -1", c -> c.differs(-1));
        Sample.refuses("differs 2", c -> c.differs(2));
        Sample.refuses("differs far off", c -> c.differs(Integer.MIN_VALUE));
    }
}

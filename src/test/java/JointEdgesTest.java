/** Each sentence of promises 12 to 15 that names a boundary case, with its own test. */
public final class JointEdgesTest {
    public static void main(String[] args) {
        Check.sentence("Promise 12", "THE STATE is kept as a JOINT", JointEdgesTest::theStateIsKept);
        Check.sentence("Promise 12", "its number", JointEdgesTest::numbersOfJoints);
        Check.sentence("Promise 12", "IllegalStateException: there are 10",
                JointEdgesTest::refusedJoints);
        Check.sentence("Promise 13", "A JOINT's LENGTH: what it was", JointEdgesTest::whatItWas);
        Check.sentence("Promise 13", "IllegalArgumentException", JointEdgesTest::refusedLengths);
        Check.sentence("Promise 14", "How much the HEAT is now more than a JOINT's",
                JointEdgesTest::moreOrLess);
        Check.sentence("Promise 14", "IllegalArgumentException", JointEdgesTest::refusedDiffers);
        Check.sentence("Promise 15", "The sum over all JOINTS of HEAT times LENGTH",
                JointEdgesTest::sumsOfNothing);
        Check.sentence("Promise 15", "HEAT times LENGTH", JointEdgesTest::greatestSum);
        Check.end();
    }

    /** One cell between two sides with G 1: the HEAT is half of what they are apart. */
    private static BridgeCells cellBetween(int cold, int warm) {
        BridgeCells cells = new BridgeCells(1, 1);
        cells.box(0, 0, 0, 0, 1);
        cells.side(0, warm, 1);
        cells.side(2, cold, 1);
        return cells;
    }

    private static void theStateIsKept() {
        BridgeCells cells = new BridgeCells(1, 1);
        cells.joint();
        Check.due("of an empty grid", cells.differs(0), 0);
        cells.box(0, 0, 0, 0, 1);
        cells.side(0, 40, 1);
        cells.side(2, 0, 1);
        cells.joint();
        cells.side(0, 60, 1);
        cells.joint();
        cells.length(0, 1000);
        cells.length(1, 1);
        cells.length(2, 10);
        Check.due("20 and 30 times 10", cells.sum(), 320);
        cells.box(0, 0, 0, 0, 0);
        Check.due("kept though the cell is gone", cells.sum(), 320);
        cells.side(0, 0, 0);
        cells.side(2, 0, 0);
        Check.due("kept though the sides are gone", cells.sum(), 320);
        Check.due("less than the second", cells.differs(1), -20);
        Check.due("less than the third", cells.differs(2), -30);
        Check.due("as the first", cells.differs(0), 0);
    }

    private static void numbersOfJoints() {
        BridgeCells cells = cellBetween(0, 0);
        for (int joint = 0; joint < 10; joint++) {
            int next = joint;
            cells.side(0, 2 * joint, 1);
            Check.due("not yet " + joint, Check.answer(() -> cells.differs(next)), Check.ARGUMENT);
            Check.due("joint " + joint, cells.joint(), joint);
            Check.due("differs " + joint, cells.differs(joint), 0);
        }
        for (int joint = 0; joint < 10; joint++) {
            Check.due("the heat of joint " + joint, cells.differs(joint), 9 - joint);
        }
    }

    private static void refusedJoints() {
        Sample.throwsAndKeeps("an eleventh", Sample::makeWithTenJoints, Check.STATE, c -> c.joint());
        BridgeCells cells = cellBetween(0, 100);
        for (int joint = 0; joint < 9; joint++) {
            cells.joint();
        }
        Check.due("the tenth is the last", Check.answer(() -> cells.joint()), 9);
        Check.due("the eleventh", Check.answer(() -> cells.joint()), Check.STATE);
        cells.side(0, 300, 1);
        Check.due("the eleventh of another state", Check.answer(() -> cells.joint()), Check.STATE);
        for (int joint = 0; joint < 10; joint++) {
            Check.due("joint " + joint + " keeps its heat", cells.differs(joint), 100);
            Check.due("joint " + joint + " keeps its length", cells.length(joint, 1), 0);
        }
        Check.due("ten times 50", cells.sum(), 500);
    }

    private static void whatItWas() {
        BridgeCells cells = cellBetween(0, 2);
        for (int joint = 0; joint < 10; joint++) {
            cells.joint();
            Check.due("at first " + joint, cells.length(joint, 1000), 0);
            Check.due("the greatest " + joint, cells.length(joint, 0), 1000);
            Check.due("none " + joint, cells.length(joint, 1), 0);
            Check.due("the same " + joint, cells.length(joint, 1), 1);
            Check.due("one before the greatest " + joint, cells.length(joint, 999), 1);
            Check.due("its own " + joint, cells.length(joint, joint), 999);
        }
        for (int joint = 0; joint < 10; joint++) {
            Check.due("each its own " + joint, cells.length(joint, 0), joint);
        }
    }

    private static void refusedLengths() {
        for (int joint : Sample.outside(0, Sample.JOINTS - 1)) {
            Sample.refuses("length of joint " + joint, c -> c.length(joint, 5));
        }
        for (int metres : Sample.outside(0, 1000)) {
            Sample.refuses("length 0 " + metres, c -> c.length(0, metres));
            Sample.refuses("length 1 " + metres, c -> c.length(1, metres));
        }
        for (int joint : Sample.outside(0, 9)) {
            Sample.throwsAndKeeps("length of joint " + joint + " with ten",
                    Sample::makeWithTenJoints, Check.ARGUMENT, c -> c.length(joint, 5));
        }
        Sample.throwsAndKeeps("length of the tenth that is too long",
                Sample::makeWithTenJoints, Check.ARGUMENT, c -> c.length(9, 1001));
    }

    private static void moreOrLess() {
        BridgeCells cells = cellBetween(-10000, 10000);
        cells.joint();
        Check.due("the same", cells.differs(0), 0);
        cells.box(0, 0, 0, 0, 0);
        Check.due("less by all of it", cells.differs(0), -10000);
        cells.joint();
        Check.due("of no heat", cells.differs(1), 0);
        cells.box(0, 0, 0, 0, 1);
        Check.due("more by all of it", cells.differs(1), 10000);
        Check.due("the same again", cells.differs(0), 0);
        cells.side(0, 9998, 1);
        Check.due("less by 1", cells.differs(0), -1);
        Check.due("more by 1 less", cells.differs(1), 9999);
        cells.length(0, 1000);
        Check.due("its length counts nothing", cells.differs(0), -1);
    }

    private static void refusedDiffers() {
        for (int joint : Sample.outside(0, Sample.JOINTS - 1)) {
            Sample.refuses("differs " + joint, c -> c.differs(joint));
        }
        for (int joint : Sample.outside(0, 9)) {
            Sample.throwsAndKeeps("differs " + joint + " with ten",
                    Sample::makeWithTenJoints, Check.ARGUMENT, c -> c.differs(joint));
        }
    }

    private static void sumsOfNothing() {
        BridgeCells cells = cellBetween(0, 10);
        Check.due("no joints", cells.sum(), 0);
        cells.joint();
        Check.due("no length", cells.sum(), 0);
        cells.length(0, 1);
        Check.due("length 1", cells.sum(), 5);
        cells.length(0, 0);
        Check.due("no length again", cells.sum(), 0);
        cells.length(0, 1000);
        cells.box(0, 0, 0, 0, 0);
        cells.joint();
        cells.length(1, 1000);
        Check.due("a joint of no heat", cells.sum(), 5000);
        cells.box(0, 0, 0, 0, 1);
        for (int joint = 2; joint < 10; joint++) {
            cells.joint();
            cells.length(joint, joint);
        }
        // 2 + 3 + .. + 9 is 44.
        Check.due("ten joints", cells.sum(), 5000 + 5 * 44);
        Check.due("an eleventh is refused", Check.answer(() -> cells.joint()), Check.STATE);
        Check.due("and counts nothing", cells.sum(), 5000 + 5 * 44);
    }

    /** Two warm and two cold sides of a full grid: one joint alone is more than an int holds. */
    private static void greatestSum() {
        BridgeCells cells = new BridgeCells(10, 10);
        Model model = new Model(10, 10);
        cells.box(0, 0, 9, 9, 20);
        model.box(0, 0, 9, 9, 20);
        for (int side = 0; side < 4; side++) {
            int warmth = side % 2 == 0 ? 10000 : -10000;
            cells.side(side, warmth, 20);
            model.side(side, warmth, 20);
        }
        long heat = model.told(0);
        Check.due("the heat", cells.told(0), heat);
        Check.due("1000 times the heat is beyond an int", heat * 1000 > Integer.MAX_VALUE, true);
        for (int joint = 0; joint < 10; joint++) {
            cells.joint();
            cells.length(joint, 1000);
            Check.due("joints to " + joint, cells.sum(), heat * 1000 * (joint + 1));
        }
    }
}

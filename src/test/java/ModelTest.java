import java.util.Random;

/** Promises 1 to 15: runs of calls drawn by lot (always the same lots) beside the plain model. */
public final class ModelTest {
    private static Random lot;
    private static BridgeCells cells;
    private static Model model;

    public static void main(String[] args) {
        for (int run = 0; run < 1500; run++) {
            lot = new Random(run);
            int reach = run % 10 == 0 ? 12 : 6;
            oneRun(run, lot.nextInt(reach + 2) - 1, lot.nextInt(reach + 2) - 1);
        }
        Check.end();
    }

    private static void oneRun(int run, int x, int y) {
        cells = new BridgeCells(x, y);
        model = new Model(x, y);
        int calls = 20 + lot.nextInt(120);
        for (int call = 0; call < calls; call++) {
            oneCall("run " + run + " call " + call + " ");
        }
    }

    /** Mostly a number within the bounds, now and then one just or far outside. */
    private static int number(int first, int last) {
        switch (lot.nextInt(60)) {
            case 0:
                return first - 1;
            case 1:
                return last + 1;
            case 2:
                return lot.nextInt();
            case 3:
                return lot.nextBoolean() ? Integer.MIN_VALUE : Integer.MAX_VALUE;
            case 4:
                return first;
            case 5:
                return last;
            default:
                return last < first ? first : first + lot.nextInt(last - first + 1);
        }
    }

    private static int column() {
        return number(0, model.columns - 1);
    }

    private static int row() {
        return number(0, model.rows - 1);
    }

    private static int degrees() {
        return lot.nextInt(3) == 0 ? lot.nextInt(41) - 20 : number(-10000, 10000);
    }

    private static int amount() {
        return lot.nextInt(4) == 0 ? 0 : number(0, 20);
    }

    private static void oneCall(String at) {
        switch (lot.nextInt(20)) {
            case 0:
            case 1:
            case 2:
            case 3:
                oneBox(at);
                break;
            case 4:
            case 5:
            case 6:
                oneSide(at);
                break;
            default:
                oneQuestion(at);
                break;
        }
    }

    private static void oneBox(String at) {
        int i0 = column();
        int j0 = row();
        int i1 = lot.nextInt(8) == 0 ? column() : number(Math.max(0, i0), model.columns - 1);
        int j1 = lot.nextInt(8) == 0 ? row() : number(Math.max(0, j0), model.rows - 1);
        int leads = amount();
        Check.due(at + "box " + i0 + " " + j0 + " " + i1 + " " + j1 + " " + leads,
                Check.answer(() -> cells.box(i0, j0, i1, j1, leads)), model.box(i0, j0, i1, j1, leads));
    }

    private static void oneSide(String at) {
        int side = number(0, 3);
        int warmth = degrees();
        int film = amount();
        Check.due(at + "side " + side + " " + warmth + " " + film,
                Check.answer(() -> cells.side(side, warmth, film)), model.side(side, warmth, film));
    }

    private static void oneQuestion(String at) {
        int i = column();
        int j = row();
        int side = number(0, 3);
        int what = number(0, 3);
        int part = number(0, 1);
        int degrees = degrees();
        int joint = number(0, 9);
        int metres = number(0, 1000);
        switch (lot.nextInt(12)) {
            case 0:
                Check.due(at + "leads", Check.answer(() -> cells.leads(i, j)), model.leads(i, j));
                break;
            case 1:
                Check.due(at + "warmth", Check.answer(() -> cells.warmth(i, j)), model.warmth(i, j));
                break;
            case 2:
                Check.due(at + "flow", Check.answer(() -> cells.flow(side)), model.flow(side));
                break;
            case 3:
                Check.due(at + "told " + what, Check.answer(() -> cells.told(what)), model.told(what));
                break;
            case 4:
                Check.due(at + "least " + part,
                        Check.answer(() -> cells.least(side, part)), model.least(side, part));
                break;
            case 5:
                Check.due(at + "factor " + part,
                        Check.answer(() -> cells.factor(side, part)), model.factor(side, part));
                break;
            case 6:
                Check.due(at + "colder",
                        Check.answer(() -> cells.colder(degrees)), model.colder(degrees));
                break;
            case 7:
                Check.due(at + "mirrored",
                        Check.answer(() -> cells.mirrored(part) ? 1 : 0), model.mirrored(part));
                break;
            case 8:
                Check.due(at + "joint", Check.answer(() -> cells.joint()), model.joint());
                break;
            case 9:
                Check.due(at + "length",
                        Check.answer(() -> cells.length(joint, metres)), model.length(joint, metres));
                break;
            case 10:
                Check.due(at + "differs", Check.answer(() -> cells.differs(joint)), model.differs(joint));
                break;
            default:
                Check.due(at + "sum", Check.answer(() -> cells.sum()), model.sum());
                break;
        }
    }
}

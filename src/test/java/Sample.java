import java.util.function.Supplier;
import java.util.function.ToLongFunction;

/** A small section with all sides and two joints, for calls that must be refused. */
final class Sample {
    static final int COLUMNS = 3;
    static final int ROWS = 2;
    static final int JOINTS = 2;

    private Sample() {}

    static BridgeCells make() {
        BridgeCells cells = new BridgeCells(COLUMNS, ROWS);
        cells.box(0, 0, 2, 1, 5);
        cells.box(1, 0, 1, 0, 0);
        cells.side(0, 100, 3);
        cells.side(1, -50, 4);
        cells.side(2, 7, 20);
        cells.side(3, 1000, 1);
        cells.joint();
        cells.length(0, 10);
        cells.box(2, 1, 2, 1, 20);
        cells.joint();
        cells.length(1, 3);
        return cells;
    }

    static BridgeCells makeWithTenJoints() {
        BridgeCells cells = make();
        for (int joint = JOINTS; joint < 10; joint++) {
            cells.joint();
            cells.length(joint, joint);
        }
        // Another HEAT than any joint's, so that it would show if one were kept anew.
        cells.side(3, 900, 2);
        return cells;
    }

    /** Numbers outside bounds: just outside, at the ends of int, and such as wrap to within them. */
    static int[] outside(int first, int last) {
        int[] all = {first - 1, last + 1, -256, 256, -65536, 65536, 1 << 30, -(1 << 30),
            Integer.MIN_VALUE, Integer.MIN_VALUE + 1, Integer.MAX_VALUE};
        return java.util.Arrays.stream(all).filter(n -> n < first || n > last).toArray();
    }

    /** The call throws IllegalArgumentException and changes nothing, on a full and a new object. */
    static void refuses(String call, ToLongFunction<BridgeCells> run) {
        throwsAndKeeps(call, Sample::make, Check.ARGUMENT, run);
        throwsAndKeeps(call + ", on a new object",
                () -> new BridgeCells(COLUMNS, ROWS), Check.ARGUMENT, run);
    }

    /**
     * The call throws, and from then on the object answers as one made alike that was not called
     * so: if it was asked for its state before, and if not.
     */
    static void throwsAndKeeps(
            String call, Supplier<BridgeCells> make, long thrown, ToLongFunction<BridgeCells> run) {
        for (int asked = 0; asked < 2; asked++) {
            BridgeCells tried = make.get();
            BridgeCells spared = make.get();
            if (asked == 1) {
                Check.due("before " + call, Seen.all(tried), Seen.all(spared));
            }
            Check.due(call, Check.answer(() -> run.applyAsLong(tried)), thrown);
            Check.due("after " + call, Seen.all(tried), Seen.all(spared));
            Check.due("later, after " + call, Seen.byChanging(tried), Seen.byChanging(spared));
        }
    }
}

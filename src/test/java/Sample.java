import java.util.function.ToLongFunction;

/** A small section with all sides and two joints, for calls that must be refused. */
final class Sample {
    static final int COLUMNS = 3;
    static final int ROWS = 2;

    private Sample() {}

    static BridgeCells make() {
        BridgeCells cells = new BridgeCells(COLUMNS, ROWS);
        cells.box(0, 0, 2, 1, 5);
        cells.box(1, 0, 1, 0, 0);
        cells.side(0, 100, 3);
        cells.side(1, -50, 4);
        cells.side(2, 7, 20);
        cells.side(3, 1000, 1);
        cells.joint();
        cells.length(0, 10);
        cells.box(2, 1, 2, 1, 20);
        cells.joint();
        cells.length(1, 3);
        return cells;
    }

    /** The call throws IllegalArgumentException and all that can be seen stays as it was. */
    static void refuses(String call, ToLongFunction<BridgeCells> run) {
        throwsAndKeeps(call, make(), Check.ARGUMENT, run);
    }

    static void throwsAndKeeps(
            String call, BridgeCells cells, long thrown, ToLongFunction<BridgeCells> run) {
        String before = Seen.all(cells, COLUMNS, ROWS);
        Check.due(call, Check.answer(() -> run.applyAsLong(cells)), thrown);
        Check.due(call + " changes nothing", Seen.all(cells, COLUMNS, ROWS), before);
    }
}

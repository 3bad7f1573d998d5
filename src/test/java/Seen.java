/** All that can be seen of an object, as a text. */
final class Seen {
    private Seen() {}

    /** What can be seen without changing it. */
    static String all(BridgeCells cells) {
        StringBuilder text = new StringBuilder();
        int columns = columns(cells);
        int rows = rows(cells);
        text.append(columns).append(" x ").append(rows).append(": ");
        for (int j = 0; j < rows; j++) {
            for (int i = 0; i < columns; i++) {
                text.append(cells.leads(i, j)).append(':').append(cells.warmth(i, j)).append(' ');
            }
        }
        for (int side = 0; side < 4; side++) {
            text.append("| ").append(cells.flow(side));
            for (int part = 0; part < 2; part++) {
                text.append(' ').append(cells.least(side, part));
                text.append(' ').append(cells.factor(side, part));
            }
        }
        for (int what = 0; what < 4; what++) {
            text.append(" told ").append(cells.told(what));
        }
        text.append(cells.mirrored(0)).append(cells.mirrored(1));
        text.append(cells.colder(0)).append(' ').append(cells.sum());
        for (int joint = 0; joint < 11; joint++) {
            int number = joint;
            text.append(' ').append(Check.answer(() -> cells.differs(number)));
        }
        return text.toString();
    }

    /** What can be seen only by changing it: what the state is sought from, lengths, joints, films. */
    static String byChanging(BridgeCells cells) {
        StringBuilder text = new StringBuilder();
        // A box that changes no LEADS, so that the state is sought once more.
        text.append("box ").append(cells.box(0, 0, 0, 0, cells.leads(0, 0)));
        text.append(' ').append(all(cells)).append(" lengths");
        for (int joint = 0; joint < 11; joint++) {
            int number = joint;
            text.append(' ').append(Check.answer(() -> cells.length(number, 1)));
        }
        text.append(" joints");
        for (int joint = 0; joint < 11; joint++) {
            text.append(' ').append(Check.answer(() -> cells.joint()));
        }
        text.append(" films");
        for (int side = 0; side < 4; side++) {
            text.append(' ').append(cells.side(side, 100 * side, side + 1));
        }
        return text.append(' ').append(all(cells)).toString();
    }

    static int columns(BridgeCells cells) {
        int count = 0;
        while (count < 20 && isThere(cells, count, 0)) {
            count++;
        }
        return count;
    }

    static int rows(BridgeCells cells) {
        int count = 0;
        while (count < 20 && isThere(cells, 0, count)) {
            count++;
        }
        return count;
    }

    private static boolean isThere(BridgeCells cells, int i, int j) {
        return Check.answer(() -> cells.leads(i, j)) >= 0;
    }
}

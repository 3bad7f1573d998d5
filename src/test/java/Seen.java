/** All that can be seen of an object without changing it, as a text. */
final class Seen {
    private Seen() {}

    static String all(BridgeCells cells, int columns, int rows) {
        StringBuilder text = new StringBuilder();
        for (int j = 0; j < rows; j++) {
            for (int i = 0; i < columns; i++) {
                text.append(cells.leads(i, j)).append(':').append(cells.warmth(i, j)).append(' ');
            }
        }
        for (int side = 0; side < 4; side++) {
            text.append("| ").append(cells.flow(side));
            for (int part = 0; part < 2; part++) {
                text.append(' ').append(cells.least(side, part));
                text.append(' ').append(cells.factor(side, part));
            }
        }
        for (int what = 0; what < 4; what++) {
            text.append(" told ").append(cells.told(what));
        }
        text.append(cells.mirrored(0)).append(cells.mirrored(1));
        text.append(cells.colder(0)).append(' ').append(cells.sum());
        for (int joint = 0; joint < 11; joint++) {
            int number = joint;
            text.append(' ').append(Check.answer(() -> cells.differs(number)));
        }
        return text.toString();
    }
}

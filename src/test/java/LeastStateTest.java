import java.util.Random;

/** Promise 5: of all states that keep the rule, found by trying every one, each cell has its least. */
public final class LeastStateTest {
    public static void main(String[] args) {
        Random lot = new Random(5);
        for (int run = 0; run < 400; run++) {
            int columns = 1 + lot.nextInt(3);
            int rows = 1 + lot.nextInt(columns == 3 ? 1 : columns == 2 ? 2 : 4);
            oneGrid(run, columns, rows, lot);
        }
        Check.end();
    }

    private static void oneGrid(int run, int columns, int rows, Random lot) {
        BridgeCells cells = new BridgeCells(columns, rows);
        Model model = new Model(columns, rows);
        for (int i = 0; i < columns; i++) {
            for (int j = 0; j < rows; j++) {
                int leads = lot.nextInt(6) == 0 ? 0 : 1 + lot.nextInt(20);
                cells.box(i, j, i, j, leads);
                model.box(i, j, i, j, leads);
            }
        }
        for (int side = 0; side < 4; side++) {
            int warmth = lot.nextInt(9) - 4;
            int film = lot.nextBoolean() ? 0 : 1 + lot.nextInt(20);
            cells.side(side, warmth, film);
            model.side(side, warmth, film);
        }
        int[][] least = leastOfAll(model);
        for (int i = 0; i < columns; i++) {
            for (int j = 0; j < rows; j++) {
                int want = model.leads[i][j] > 0 ? least[i][j] : BridgeCells.NOTHING;
                Check.due("grid " + run + " warmth " + i + " " + j, cells.warmth(i, j), want);
            }
        }
    }

    private static int[][] leastOfAll(Model model) {
        int choices = model.high() - model.low() + 2;
        int places = model.columns * model.rows;
        int[][] least = new int[model.columns][model.rows];
        for (int[] column : least) {
            java.util.Arrays.fill(column, Integer.MAX_VALUE);
        }
        long all = 1;
        for (int place = 0; place < places; place++) {
            all *= choices;
        }
        for (long code = 0; code < all; code++) {
            int[][] tried = new int[model.columns][model.rows];
            long left = code;
            for (int place = 0; place < places; place++) {
                tried[place % model.columns][place / model.columns] = model.low() + (int) (left % choices);
                left /= choices;
            }
            if (keepsTheRule(model, tried)) {
                takeLess(least, tried);
            }
        }
        return least;
    }

    private static boolean keepsTheRule(Model model, int[][] tried) {
        for (int i = 0; i < model.columns; i++) {
            for (int j = 0; j < model.rows; j++) {
                if (model.leads[i][j] > 0 && model.asked(tried, i, j) != tried[i][j]) {
                    return false;
                }
            }
        }
        return true;
    }

    private static void takeLess(int[][] least, int[][] tried) {
        for (int i = 0; i < least.length; i++) {
            for (int j = 0; j < least[i].length; j++) {
                least[i][j] = Math.min(least[i][j], tried[i][j]);
            }
        }
    }
}

/** Promises 13 places and 14 count. */
public final class CountTests {
    public static void main(String[] args) {
        crestsAndTroughs();
        crestsBesideTheEnds();
        otherPlaces();
        paddlesBesideCellZero();
        placesThatAreRefused();
        counts();
        sums();
        lastCell();
        countsThatAreRefused();
        Due.finish();
    }

    private static void crestsAndTroughs() {
        PaddleRows rows = new PaddleRows();
        Due.due("crests of a tank at rest", rows.places(0), 0);
        Due.due("troughs of a tank at rest", rows.places(1), 0);
        rows.level(0, 9);
        rows.level(1, 3);
        rows.level(2, 4);
        rows.level(10, -2);
        rows.level(20, 6);
        rows.level(21, 6);
        rows.level(38, 5);
        rows.level(39, -5);
        Due.due("crests", rows.places(0), 1L << 2 | 1L << 38);
        Due.due("troughs", rows.places(1), 1L << 1 | 1L << 10);
        for (int cell = 0; cell < 40; cell++) {
            Due.due("crest " + cell, rows.cell(cell, 2), rows.places(0) >> cell & 1);
            Due.due("trough " + cell, rows.cell(cell, 3), rows.places(1) >> cell & 1);
        }
    }

    private static void crestsBesideTheEnds() {
        PaddleRows rows = new PaddleRows();
        rows.level(1, 5);
        rows.level(38, -5);
        Due.due("crest of 1", rows.places(0), 2);
        Due.due("trough of 38", rows.places(1), 1L << 38);
        rows.level(1, -5);
        rows.level(38, 5);
        Due.due("crest of 38", rows.places(0), 1L << 38);
        Due.due("trough of 1", rows.places(1), 2);
        rows.level(1, 0);
        rows.level(38, 0);
        int[] levels = {7, -7};
        for (int level : levels) {
            rows.level(0, level);
            rows.level(39, level);
            Due.due("no crest at the ends", rows.places(0), 0);
            Due.due("no trough at the ends", rows.places(1), 0);
        }
    }

    private static void otherPlaces() {
        PaddleRows rows = new PaddleRows();
        rows.level(0, 1);
        rows.level(31, -1);
        rows.level(32, 1);
        rows.level(39, 9999);
        Due.due("cells whose level is not 0", rows.places(2), 1L | 1L << 31 | 1L << 32 | 1L << 39);
        rows.paddle(0, 0, 9, 1, 0);
        rows.paddle(31, 0, 9, 1, 0);
        rows.paddle(35, 0, 9, 1, 0);
        Due.due("cells of paddles", rows.places(3), 1L | 1L << 31 | 1L << 35);
        Due.due("cells of paddles that stopped", rows.places(4), 0);
        rows.level(35, -501);
        rows.level(0, 501);
        rows.pass(1);
        Due.due("cells of paddles that stopped", rows.places(4), 1L | 1L << 35);
        Due.due("paddles that stopped", rows.count(2), 2);
        Due.due("cells of paddles", rows.places(3), 1L | 1L << 31 | 1L << 35);
    }

    private static void paddlesBesideCellZero() {
        PaddleRows rows = new PaddleRows();
        Due.due("no paddles", rows.places(3), 0);
        rows.paddle(2, 0, 9, 1, 0);
        rows.level(2, 600);
        rows.pass(1);
        Due.due("cells of paddles", rows.places(3), 4);
        Due.due("cells of paddles that stopped", rows.places(4), 4);
    }

    private static void placesThatAreRefused() {
        PaddleRows rows = new PaddleRows();
        int[] wrong = {-1, 5, Integer.MIN_VALUE, Integer.MAX_VALUE};
        for (int what : wrong) {
            Due.due("places(" + what + ")", rows.places(what), -2);
        }
    }

    private static void counts() {
        PaddleRows rows = new PaddleRows();
        rows.set(PaddleRows.BEACH, 7);
        rows.set(PaddleRows.LOSS, 8);
        rows.set(PaddleRows.HARD, 9);
        rows.gauge(3);
        rows.gauge(4);
        rows.paddle(5, 0, 0, 1, 0);
        rows.paddle(6, 0, 0, 1, 0);
        rows.paddle(7, 0, 0, 1, 0);
        rows.level(5, -10);
        rows.pass(11);
        Tanks.write(rows, "p0f1/1;");
        int[] due = {11, 3, 1, 2};
        for (int what = 0; what < due.length; what++) {
            Due.due("count(" + what + ")", rows.count(what), due[what]);
        }
        Due.due("BEACH", rows.count(8), 7);
        Due.due("LOSS", rows.count(9), 8);
        Due.due("HARD", rows.count(10), 9);
        Due.due("length of the pad", rows.count(11), 7);
        Due.due("changes", rows.count(12), 6);
    }

    private static void sums() {
        PaddleRows rows = Tanks.lossless();
        rows.level(10, 100);
        rows.level(20, -300);
        Due.due("sum of levels", rows.count(4), 999800);
        Due.due("levels and speeds", rows.count(5), 400);
        Due.due("greatest level", rows.count(6), 300);
        rows.pass(1);
        // levels 25 50 25 and -75 -150 -75, speeds 25 -50 25 and -75 150 -75
        Due.due("sum of levels", rows.count(4), 999800);
        Due.due("levels and speeds", rows.count(5), 800);
        Due.due("greatest level", rows.count(6), 150);
        PaddleRows one = new PaddleRows();
        one.level(0, -9);
        Due.due("sum of cell 0", one.count(4), 999991);
        Due.due("levels of cell 0", one.count(5), 9);
        Due.due("greatest of cell 0", one.count(6), 9);
        PaddleRows full = new PaddleRows();
        for (int cell = 0; cell < 40; cell++) {
            full.level(cell, -9999);
        }
        Due.due("least sum", full.count(4), 1000000 - 40 * 9999);
        Due.due("most of levels", full.count(5), 40 * 9999);
        Due.due("greatest level", full.count(6), 9999);
    }

    private static void lastCell() {
        PaddleRows rows = new PaddleRows();
        Due.due("last cell of none", rows.count(7), -6);
        rows.level(0, -1);
        Due.due("last cell", rows.count(7), 0);
        rows.level(12, 1);
        Due.due("last cell", rows.count(7), 12);
        rows.level(39, -1);
        Due.due("last cell", rows.count(7), 39);
    }

    private static void countsThatAreRefused() {
        PaddleRows rows = new PaddleRows();
        int[] wrong = {-1, 13, Integer.MIN_VALUE, Integer.MAX_VALUE};
        for (int what : wrong) {
            Due.due("count(" + what + ")", rows.count(what), -2);
        }
    }
}

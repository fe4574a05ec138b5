/** Promises 6 gauge, 11 ofGauge, 12 noted, and what a step notes. */
public final class GaugeTests {
    public static void main(String[] args) {
        coming();
        refused();
        noting();
        greatestAndLeast();
        rises();
        risesBesideZero();
        riseOfTheOldestTwo();
        notesBehindAllElse();
        mostNotes();
        oldestBesideLatest();
        severalGauges();
        askingThatIsRefused();
        undoneGauge();
        restoredGauge();
        Due.finish();
    }

    private static void coming() {
        PaddleRows rows = new PaddleRows();
        int[] cells = {39, 0, 7, 7};
        for (int gauge = 0; gauge < 4; gauge++) {
            Due.due("gauge", rows.gauge(cells[gauge]), gauge);
        }
        for (int gauge = 0; gauge < 4; gauge++) {
            Due.due("its cell", rows.ofGauge(gauge, 0), cells[gauge]);
            Due.due("its notes", rows.ofGauge(gauge, 1), 0);
            Due.due("its greatest", rows.ofGauge(gauge, 2), -6);
            Due.due("its least", rows.ofGauge(gauge, 3), -6);
            Due.due("its rises", rows.ofGauge(gauge, 4), 0);
        }
        Due.due("gauge is a change", rows.count(12), 4);
        rows.pass(2);
        for (int gauge = 0; gauge < 4; gauge++) {
            Due.due("its notes", rows.ofGauge(gauge, 1), 2);
            Due.due("its latest note", rows.noted(gauge, 0), 10000);
        }
    }

    private static void refused() {
        PaddleRows rows = new PaddleRows();
        int[] wrong = {-1, 40, Integer.MIN_VALUE, Integer.MAX_VALUE};
        for (int cell : wrong) {
            Due.due("gauge(" + cell + ")", rows.gauge(cell), -1);
        }
        Due.due("refused gauge", Tanks.seen(rows), Tanks.seen(new PaddleRows()));
        for (int gauge = 0; gauge < 4; gauge++) {
            rows.gauge(0);
        }
        Due.due("a fifth one", rows.gauge(5), -4);
        Due.due("a fifth one nowhere", rows.gauge(40), -1);
        Due.due("gauges", rows.count(3), 4);
        Due.due("changes", rows.count(12), 4);
    }

    private static void noting() {
        PaddleRows rows = gaugeInTen();
        rows.level(10, 17);
        Due.due("noted ahead of a step", rows.noted(0, 0), -1);
        passWith(rows, 17);
        Due.due("noted", rows.noted(0, 0), 10017);
        Due.due("noted further ago", rows.noted(0, 1), -1);
        rows.level(10, -55);
        Due.due("noted only in steps", rows.noted(0, 0), 10017);
        rows.level(9, 17);
        rows.level(11, 17);
        rows.pass(2);
        Due.due("notes", rows.ofGauge(0, 1), 3);
        // (17 + 17 + 110) / 4 is 36
        Due.due("noted behind the step", rows.noted(0, 1), 10000 - 19);
        Due.due("noted first", rows.noted(0, 2), 10017);
        Due.due("noted last", rows.noted(0, 0), rows.cell(10, 0));
    }

    private static void greatestAndLeast() {
        int[][] cases = {{-5, -9, -2}, {5, 9, 2}, {-3, 0, 3}, {7, -7, 7}};
        int[][] due = {{-2, -9}, {9, 2}, {3, -3}, {7, -7}};
        for (int row = 0; row < cases.length; row++) {
            PaddleRows rows = gaugeInTen();
            for (int level : cases[row]) {
                passWith(rows, level);
            }
            Due.due("greatest", rows.ofGauge(0, 2), 10000 + due[row][0]);
            Due.due("least", rows.ofGauge(0, 3), 10000 + due[row][1]);
        }
    }

    private static void rises() {
        PaddleRows rows = gaugeInTen();
        int[] levels = {8, -8, 0, 8, -8, -8, 8, 0, -8, 1, -1};
        int[] due = {0, 0, 1, 1, 1, 1, 2, 2, 2, 3, 3};
        for (int i = 0; i < levels.length; i++) {
            passWith(rows, levels[i]);
            Due.due("noted", rows.noted(0, 0), 10000 + levels[i]);
            Due.due("rises at " + i, rows.ofGauge(0, 4), due[i]);
        }
    }

    /** From below 0 to 0 is a rise; from 0 up, or from below 0 to below 0, is none. */
    private static void risesBesideZero() {
        int[][] cases = {{-5, -1, 0}, {-2, -1, 0}, {-1, -1, 0}, {-1, 0, 1}, {-1, 1, 1}, {0, 0, 0}, {0, 1, 0}, {0, -1, 0},
            {1, -1, 0}};
        for (int[] row : cases) {
            PaddleRows rows = gaugeInTen();
            passWith(rows, row[0]);
            passWith(rows, row[1]);
            Due.due("rises from " + row[0] + " to " + row[1], rows.ofGauge(0, 4), row[2]);
        }
    }

    /** A note is the level behind the beach and the move of the water, not the push. */
    private static void notesBehindAllElse() {
        PaddleRows rows = new PaddleRows();
        rows.set(PaddleRows.BEACH, 100);
        rows.set(PaddleRows.LOSS, 0);
        rows.gauge(38);
        rows.gauge(39);
        rows.gauge(10);
        rows.level(38, 400);
        rows.level(39, 400);
        rows.paddle(10, PaddleRows.FLAT, 200, 1, 0);
        rows.pass(1);
        // 400 - 400 / 4 is 300; the beach takes 300 * 300 / 400 of it
        Due.due("noted in 38", rows.noted(0, 0), 10075);
        Due.due("noted in 39", rows.noted(1, 0), 10000);
        // 200 - 400 / 4
        Due.due("noted in 10", rows.noted(2, 0), 10100);
    }

    private static void riseOfTheOldestTwo() {
        PaddleRows rows = gaugeInTen();
        passWith(rows, -1);
        Due.due("rises of one", rows.ofGauge(0, 4), 0);
        passWith(rows, 0);
        Due.due("rises of two", rows.ofGauge(0, 4), 1);
        passWith(rows, 0);
        Due.due("rises of three", rows.ofGauge(0, 4), 1);
    }

    /** The latest note is not ahead of the oldest one. */
    private static void oldestBesideLatest() {
        PaddleRows rows = gaugeInTen();
        for (int step = 0; step < 60; step++) {
            passWith(rows, step == 59 ? -4 : 4);
        }
        Due.due("notes", rows.ofGauge(0, 1), 60);
        Due.due("oldest", rows.noted(0, 59), 10004);
        Due.due("latest", rows.noted(0, 0), 9996);
        Due.due("rises", rows.ofGauge(0, 4), 0);
        passWith(rows, 4);
        Due.due("rises", rows.ofGauge(0, 4), 1);
        Due.due("oldest", rows.noted(0, 59), 10004);
    }

    private static PaddleRows gaugeInTen() {
        PaddleRows rows = Tanks.lossless();
        rows.gauge(10);
        return rows;
    }

    /** One step in which cell 10, still until then, has a level and keeps it: its neighbours have it, too. */
    private static void passWith(PaddleRows rows, int level) {
        for (int cell = 9; cell <= 11; cell++) {
            rows.level(cell, level);
        }
        rows.pass(1);
    }

    private static void mostNotes() {
        PaddleRows rows = Tanks.lossless();
        rows.gauge(20);
        rows.level(20, -400);
        rows.pass(1);
        int first = Tanks.level(rows, 20);
        Due.due("first note", first, -200);
        rows.pass(58);
        Due.due("notes", rows.ofGauge(0, 1), 59);
        Due.due("oldest note", rows.noted(0, 58), 9800);
        rows.pass(1);
        Due.due("notes", rows.ofGauge(0, 1), 60);
        Due.due("oldest note", rows.noted(0, 59), 9800);
        Due.due("least of 60", rows.ofGauge(0, 3), 9800);
        int second = rows.noted(0, 58);
        rows.pass(1);
        Due.due("notes", rows.ofGauge(0, 1), 60);
        Due.due("oldest note", rows.noted(0, 59), second);
        Due.due("no older one", rows.noted(0, 60), -1);
        int least = 20000;
        int rises = 0;
        for (int ago = 0; ago < 60; ago++) {
            least = Math.min(least, rows.noted(0, ago));
            if (ago < 59 && rows.noted(0, ago) >= 10000 && rows.noted(0, ago + 1) < 10000) {
                rises++;
            }
        }
        Due.due("least of the latest 60", rows.ofGauge(0, 3), least);
        Due.due("rises of the latest 60", rows.ofGauge(0, 4), rises);
        rows.pass(99);
        Due.due("notes", rows.ofGauge(0, 1), 60);
        Due.due("latest note", rows.noted(0, 0), rows.cell(20, 0));
    }

    private static void severalGauges() {
        PaddleRows rows = Tanks.lossless();
        rows.gauge(20);
        rows.level(20, 400);
        rows.pass(1);
        rows.gauge(21);
        rows.pass(1);
        Due.due("notes of the first", rows.ofGauge(0, 1), 2);
        Due.due("notes of the second", rows.ofGauge(1, 1), 1);
        Due.due("noted by the first", rows.noted(0, 0), rows.cell(20, 0));
        Due.due("noted by the second", rows.noted(1, 0), rows.cell(21, 0));
        Due.due("noted by the second", rows.noted(1, 1), -1);
    }

    private static void askingThatIsRefused() {
        PaddleRows rows = new PaddleRows();
        rows.gauge(3);
        rows.pass(2);
        int[] wrong = {-1, 1, 4, Integer.MIN_VALUE, Integer.MAX_VALUE};
        for (int gauge : wrong) {
            Due.due("ofGauge(" + gauge + ", 0)", rows.ofGauge(gauge, 0), -1);
            Due.due("ofGauge(" + gauge + ", 5)", rows.ofGauge(gauge, 5), -1);
            Due.due("noted(" + gauge + ", 0)", rows.noted(gauge, 0), -1);
        }
        Due.due("ofGauge(0, 5)", rows.ofGauge(0, 5), -2);
        Due.due("ofGauge(0, -1)", rows.ofGauge(0, -1), -2);
        int[] wrongAgo = {-1, 2, 60, Integer.MIN_VALUE, Integer.MAX_VALUE};
        for (int ago : wrongAgo) {
            Due.due("noted(0, " + ago + ")", rows.noted(0, ago), -1);
        }
        Due.due("noted(0, 1)", rows.noted(0, 1), 10000);
    }

    /** A gauge that comes where one was undone knows nothing of that one's notes. */
    private static void undoneGauge() {
        PaddleRows rows = new PaddleRows();
        rows.gauge(3);
        rows.pass(9);
        rows.undo();
        Due.due("notes behind undo", rows.ofGauge(0, 1), 0);
        rows.pass(4);
        rows.undo();
        rows.undo();
        Due.due("gauges", rows.count(3), 0);
        rows.gauge(5);
        Due.due("its cell", rows.ofGauge(0, 0), 5);
        Due.due("its notes", rows.ofGauge(0, 1), 0);
    }

    /** All 60 notes come back, and so does the cell; a gauge behind that begins without notes. */
    private static void restoredGauge() {
        PaddleRows rows = new PaddleRows();
        rows.save(1);
        rows.gauge(3);
        rows.level(3, 900);
        rows.pass(70);
        int[] notes = new int[60];
        for (int ago = 0; ago < 60; ago++) {
            notes[ago] = rows.noted(0, ago);
        }
        rows.save(0);
        rows.level(3, -900);
        rows.pass(80);
        Due.due("restore without gauges", rows.restore(1), 0);
        Due.due("gauges", rows.count(3), 0);
        Due.due("a new one", rows.gauge(5), 0);
        Due.due("its notes", rows.ofGauge(0, 1), 0);
        Due.due("its latest", rows.noted(0, 0), -1);
        Due.due("restore with a gauge", rows.restore(0), 0);
        Due.due("its cell", rows.ofGauge(0, 0), 3);
        for (int ago = 0; ago < 60; ago++) {
            Due.due("noted " + ago, rows.noted(0, ago), notes[ago]);
        }
        rows.pass(90);
        rows.undo();
        for (int ago = 0; ago < 60; ago++) {
            Due.due("noted " + ago + " behind undo", rows.noted(0, ago), notes[ago]);
        }
    }
}
